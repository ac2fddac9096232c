section
-- ===== PART A: goes FIRST, ahead of the names: the tables' words, and 'selects' of the private methods out of them =====
/-- a private method of a class that the tables say can be made, by its rows of tables_1 -/
def lw_okq (q : MethodName × Nat) : Prop := (q.1.cls ≠ "java/lang/invoke/MethodHandle" ∧ q.1.cls ≠ "java/lang/invoke/VarHandle") ∧ Cond.instantiable q.1.cls q.2 ∈ tables_1 ∧ Cond.privateMethod q.1 ∈ tables_1 ∧ Cond.instanceMethod q.1 ∈ tables_1
theorem lw_p0 : lw_okq (⟨"SessionGate", "judge", "(Z)I"⟩, 19) := ⟨⟨by decide +kernel, by decide +kernel⟩, List.mem_of_getElem? (i := 24) (by decide +kernel), List.mem_of_getElem? (i := 241) (by decide +kernel), List.mem_of_getElem? (i := 242) (by decide +kernel)⟩
theorem lw_p1 : lw_okq (⟨"SessionGate$KeyRing", "isLive", "(IJJ)Z"⟩, 3) := ⟨⟨by decide +kernel, by decide +kernel⟩, List.mem_of_getElem? (i := 53) (by decide +kernel), List.mem_of_getElem? (i := 345) (by decide +kernel), List.mem_of_getElem? (i := 346) (by decide +kernel)⟩
theorem lw_p2 : lw_okq (⟨"SessionGate", "isSealedBy", "(LSessionGate$Key;)Z"⟩, 19) := ⟨⟨by decide +kernel, by decide +kernel⟩, List.mem_of_getElem? (i := 24) (by decide +kernel), List.mem_of_getElem? (i := 349) (by decide +kernel), List.mem_of_getElem? (i := 350) (by decide +kernel)⟩
theorem lw_p3 : lw_okq (⟨"SessionGate$Mac", "fillBlocks", "([II[II)V"⟩, 4) := ⟨⟨by decide +kernel, by decide +kernel⟩, List.mem_of_getElem? (i := 32) (by decide +kernel), List.mem_of_getElem? (i := 357) (by decide +kernel), List.mem_of_getElem? (i := 358) (by decide +kernel)⟩
theorem lw_p4 : lw_okq (⟨"SessionGate$Mac", "hashBlocks", "()V"⟩, 4) := ⟨⟨by decide +kernel, by decide +kernel⟩, List.mem_of_getElem? (i := 32) (by decide +kernel), List.mem_of_getElem? (i := 361) (by decide +kernel), List.mem_of_getElem? (i := 362) (by decide +kernel)⟩
theorem lw_p5 : lw_okq (⟨"SessionGate$Mac", "fillSchedule", "(I)V"⟩, 4) := ⟨⟨by decide +kernel, by decide +kernel⟩, List.mem_of_getElem? (i := 32) (by decide +kernel), List.mem_of_getElem? (i := 370) (by decide +kernel), List.mem_of_getElem? (i := 371) (by decide +kernel)⟩
theorem lw_p6 : lw_okq (⟨"SessionGate$Mac", "mixSchedule", "()V"⟩, 4) := ⟨⟨by decide +kernel, by decide +kernel⟩, List.mem_of_getElem? (i := 32) (by decide +kernel), List.mem_of_getElem? (i := 377) (by decide +kernel), List.mem_of_getElem? (i := 378) (by decide +kernel)⟩
theorem lw_p7 : lw_okq (⟨"SessionGate", "numberOf", "(IJ)I"⟩, 19) := ⟨⟨by decide +kernel, by decide +kernel⟩, List.mem_of_getElem? (i := 24) (by decide +kernel), List.mem_of_getElem? (i := 387) (by decide +kernel), List.mem_of_getElem? (i := 388) (by decide +kernel)⟩
theorem lw_p8 : lw_okq (⟨"SessionGate", "isOld", "(LSessionGate$Session;)Z"⟩, 19) := ⟨⟨by decide +kernel, by decide +kernel⟩, List.mem_of_getElem? (i := 24) (by decide +kernel), List.mem_of_getElem? (i := 391) (by decide +kernel), List.mem_of_getElem? (i := 392) (by decide +kernel)⟩
theorem lw_p9 : lw_okq (⟨"SessionGate", "isIdle", "(LSessionGate$Session;)Z"⟩, 19) := ⟨⟨by decide +kernel, by decide +kernel⟩, List.mem_of_getElem? (i := 24) (by decide +kernel), List.mem_of_getElem? (i := 395) (by decide +kernel), List.mem_of_getElem? (i := 396) (by decide +kernel)⟩
theorem lw_p10 : lw_okq (⟨"SessionGate", "writeToken", "(LSessionGate$Key;LSessionGate$Text;)V"⟩, 19) := ⟨⟨by decide +kernel, by decide +kernel⟩, List.mem_of_getElem? (i := 24) (by decide +kernel), List.mem_of_getElem? (i := 399) (by decide +kernel), List.mem_of_getElem? (i := 400) (by decide +kernel)⟩
theorem lw_p11 : lw_okq (⟨"SessionGate", "tally", "(I)V"⟩, 19) := ⟨⟨by decide +kernel, by decide +kernel⟩, List.mem_of_getElem? (i := 24) (by decide +kernel), List.mem_of_getElem? (i := 435) (by decide +kernel), List.mem_of_getElem? (i := 436) (by decide +kernel)⟩
theorem lw_p12 : lw_okq (⟨"SessionGate", "writeTexts", "(LSessionGate$Session;)V"⟩, 19) := ⟨⟨by decide +kernel, by decide +kernel⟩, List.mem_of_getElem? (i := 24) (by decide +kernel), List.mem_of_getElem? (i := 439) (by decide +kernel), List.mem_of_getElem? (i := 440) (by decide +kernel)⟩
theorem lw_p13 : lw_okq (⟨"java/lang/Throwable", "fillInStackTrace", "(I)Ljava/lang/Throwable;"⟩, 6) := ⟨⟨by decide +kernel, by decide +kernel⟩, List.mem_of_getElem? (i := 495) (by decide +kernel), List.mem_of_getElem? (i := 493) (by decide +kernel), List.mem_of_getElem? (i := 494) (by decide +kernel)⟩
theorem lw_p14 : lw_okq (⟨"SessionGate", "endStaleSessions", "()V"⟩, 19) := ⟨⟨by decide +kernel, by decide +kernel⟩, List.mem_of_getElem? (i := 24) (by decide +kernel), List.mem_of_getElem? (i := 556) (by decide +kernel), List.mem_of_getElem? (i := 557) (by decide +kernel)⟩
theorem lw_p15 : lw_okq (⟨"SessionGate", "freeNumber", "()I"⟩, 19) := ⟨⟨by decide +kernel, by decide +kernel⟩, List.mem_of_getElem? (i := 24) (by decide +kernel), List.mem_of_getElem? (i := 560) (by decide +kernel), List.mem_of_getElem? (i := 561) (by decide +kernel)⟩
def lw_privs_1 : List (MethodName × Nat) := [(⟨"SessionGate", "judge", "(Z)I"⟩, 19), (⟨"SessionGate$KeyRing", "isLive", "(IJJ)Z"⟩, 3), (⟨"SessionGate", "isSealedBy", "(LSessionGate$Key;)Z"⟩, 19), (⟨"SessionGate$Mac", "fillBlocks", "([II[II)V"⟩, 4), (⟨"SessionGate$Mac", "hashBlocks", "()V"⟩, 4), (⟨"SessionGate$Mac", "fillSchedule", "(I)V"⟩, 4), (⟨"SessionGate$Mac", "mixSchedule", "()V"⟩, 4), (⟨"SessionGate", "numberOf", "(IJ)I"⟩, 19), (⟨"SessionGate", "isOld", "(LSessionGate$Session;)Z"⟩, 19), (⟨"SessionGate", "isIdle", "(LSessionGate$Session;)Z"⟩, 19), (⟨"SessionGate", "writeToken", "(LSessionGate$Key;LSessionGate$Text;)V"⟩, 19), (⟨"SessionGate", "tally", "(I)V"⟩, 19), (⟨"SessionGate", "writeTexts", "(LSessionGate$Session;)V"⟩, 19), (⟨"java/lang/Throwable", "fillInStackTrace", "(I)Ljava/lang/Throwable;"⟩, 6), (⟨"SessionGate", "endStaleSessions", "()V"⟩, 19), (⟨"SessionGate", "freeNumber", "()I"⟩, 19)]
theorem lw_r1 : ∀ q ∈ lw_privs_1, lw_okq q := List.forall_mem_cons.mpr ⟨lw_p0, List.forall_mem_cons.mpr ⟨lw_p1, List.forall_mem_cons.mpr ⟨lw_p2, List.forall_mem_cons.mpr ⟨lw_p3, List.forall_mem_cons.mpr ⟨lw_p4, List.forall_mem_cons.mpr ⟨lw_p5, List.forall_mem_cons.mpr ⟨lw_p6, List.forall_mem_cons.mpr ⟨lw_p7, List.forall_mem_cons.mpr ⟨lw_p8, List.forall_mem_cons.mpr ⟨lw_p9, List.forall_mem_cons.mpr ⟨lw_p10, List.forall_mem_cons.mpr ⟨lw_p11, List.forall_mem_cons.mpr ⟨lw_p12, List.forall_mem_cons.mpr ⟨lw_p13, List.forall_mem_cons.mpr ⟨lw_p14, List.forall_mem_cons.mpr ⟨lw_p15, fun _ h => absurd h List.not_mem_nil⟩⟩⟩⟩⟩⟩⟩⟩⟩⟩⟩⟩⟩⟩⟩⟩
theorem lw_p16 : lw_okq (⟨"SessionGate", "nextId", "()J"⟩, 19) := ⟨⟨by decide +kernel, by decide +kernel⟩, List.mem_of_getElem? (i := 24) (by decide +kernel), List.mem_of_getElem? (i := 564) (by decide +kernel), List.mem_of_getElem? (i := 565) (by decide +kernel)⟩
theorem lw_p17 : lw_okq (⟨"SessionGate", "textOf", "(I)LSessionGate$Text;"⟩, 19) := ⟨⟨by decide +kernel, by decide +kernel⟩, List.mem_of_getElem? (i := 24) (by decide +kernel), List.mem_of_getElem? (i := 590) (by decide +kernel), List.mem_of_getElem? (i := 591) (by decide +kernel)⟩
theorem lw_p18 : lw_okq (⟨"SessionGate", "openSessions", "()I"⟩, 19) := ⟨⟨by decide +kernel, by decide +kernel⟩, List.mem_of_getElem? (i := 24) (by decide +kernel), List.mem_of_getElem? (i := 675) (by decide +kernel), List.mem_of_getElem? (i := 676) (by decide +kernel)⟩
theorem lw_p19 : lw_okq (⟨"SessionGateModel", "refused", "(I)Z"⟩, 36) := ⟨⟨by decide +kernel, by decide +kernel⟩, List.mem_of_getElem? (i := 690) (by decide +kernel), List.mem_of_getElem? (i := 896) (by decide +kernel), List.mem_of_getElem? (i := 897) (by decide +kernel)⟩
theorem lw_p20 : lw_okq (⟨"SessionGateModel", "isOld", "(I)Z"⟩, 36) := ⟨⟨by decide +kernel, by decide +kernel⟩, List.mem_of_getElem? (i := 690) (by decide +kernel), List.mem_of_getElem? (i := 918) (by decide +kernel), List.mem_of_getElem? (i := 919) (by decide +kernel)⟩
theorem lw_p21 : lw_okq (⟨"SessionGateModel", "isIdle", "(I)Z"⟩, 36) := ⟨⟨by decide +kernel, by decide +kernel⟩, List.mem_of_getElem? (i := 690) (by decide +kernel), List.mem_of_getElem? (i := 922) (by decide +kernel), List.mem_of_getElem? (i := 923) (by decide +kernel)⟩
theorem lw_p22 : lw_okq (⟨"SessionGateModel", "newId", "()J"⟩, 36) := ⟨⟨by decide +kernel, by decide +kernel⟩, List.mem_of_getElem? (i := 690) (by decide +kernel), List.mem_of_getElem? (i := 926) (by decide +kernel), List.mem_of_getElem? (i := 927) (by decide +kernel)⟩
theorem lw_p23 : lw_okq (⟨"SessionGateModel", "say", "(I)V"⟩, 36) := ⟨⟨by decide +kernel, by decide +kernel⟩, List.mem_of_getElem? (i := 690) (by decide +kernel), List.mem_of_getElem? (i := 931) (by decide +kernel), List.mem_of_getElem? (i := 932) (by decide +kernel)⟩
theorem lw_p24 : lw_okq (⟨"SessionGateModel", "seal", "()V"⟩, 36) := ⟨⟨by decide +kernel, by decide +kernel⟩, List.mem_of_getElem? (i := 690) (by decide +kernel), List.mem_of_getElem? (i := 935) (by decide +kernel), List.mem_of_getElem? (i := 936) (by decide +kernel)⟩
theorem lw_p25 : lw_okq (⟨"SessionGateModel", "hashNow", "()V"⟩, 36) := ⟨⟨by decide +kernel, by decide +kernel⟩, List.mem_of_getElem? (i := 690) (by decide +kernel), List.mem_of_getElem? (i := 939) (by decide +kernel), List.mem_of_getElem? (i := 940) (by decide +kernel)⟩
theorem lw_p26 : lw_okq (⟨"SessionGateModel", "block", "(I)V"⟩, 36) := ⟨⟨by decide +kernel, by decide +kernel⟩, List.mem_of_getElem? (i := 690) (by decide +kernel), List.mem_of_getElem? (i := 943) (by decide +kernel), List.mem_of_getElem? (i := 944) (by decide +kernel)⟩
theorem lw_p27 : lw_okq (⟨"SessionGateModel", "issue", "(I)V"⟩, 36) := ⟨⟨by decide +kernel, by decide +kernel⟩, List.mem_of_getElem? (i := 690) (by decide +kernel), List.mem_of_getElem? (i := 950) (by decide +kernel), List.mem_of_getElem? (i := 951) (by decide +kernel)⟩
theorem lw_p28 : lw_okq (⟨"SessionGateModel", "body", "(IIJ)V"⟩, 36) := ⟨⟨by decide +kernel, by decide +kernel⟩, List.mem_of_getElem? (i := 690) (by decide +kernel), List.mem_of_getElem? (i := 954) (by decide +kernel), List.mem_of_getElem? (i := 955) (by decide +kernel)⟩
theorem lw_p29 : lw_okq (⟨"SessionGateModel", "sealBody", "(II)V"⟩, 36) := ⟨⟨by decide +kernel, by decide +kernel⟩, List.mem_of_getElem? (i := 690) (by decide +kernel), List.mem_of_getElem? (i := 958) (by decide +kernel), List.mem_of_getElem? (i := 959) (by decide +kernel)⟩
theorem lw_p30 : lw_okq (⟨"SessionGateModel", "takeKey", "(I)V"⟩, 36) := ⟨⟨by decide +kernel, by decide +kernel⟩, List.mem_of_getElem? (i := 690) (by decide +kernel), List.mem_of_getElem? (i := 962) (by decide +kernel), List.mem_of_getElem? (i := 963) (by decide +kernel)⟩
theorem lw_p31 : lw_okq (⟨"SessionGateModel", "codedAt", "(II)I"⟩, 36) := ⟨⟨by decide +kernel, by decide +kernel⟩, List.mem_of_getElem? (i := 690) (by decide +kernel), List.mem_of_getElem? (i := 966) (by decide +kernel), List.mem_of_getElem? (i := 967) (by decide +kernel)⟩
def lw_privs_2 : List (MethodName × Nat) := [(⟨"SessionGate", "nextId", "()J"⟩, 19), (⟨"SessionGate", "textOf", "(I)LSessionGate$Text;"⟩, 19), (⟨"SessionGate", "openSessions", "()I"⟩, 19), (⟨"SessionGateModel", "refused", "(I)Z"⟩, 36), (⟨"SessionGateModel", "isOld", "(I)Z"⟩, 36), (⟨"SessionGateModel", "isIdle", "(I)Z"⟩, 36), (⟨"SessionGateModel", "newId", "()J"⟩, 36), (⟨"SessionGateModel", "say", "(I)V"⟩, 36), (⟨"SessionGateModel", "seal", "()V"⟩, 36), (⟨"SessionGateModel", "hashNow", "()V"⟩, 36), (⟨"SessionGateModel", "block", "(I)V"⟩, 36), (⟨"SessionGateModel", "issue", "(I)V"⟩, 36), (⟨"SessionGateModel", "body", "(IIJ)V"⟩, 36), (⟨"SessionGateModel", "sealBody", "(II)V"⟩, 36), (⟨"SessionGateModel", "takeKey", "(I)V"⟩, 36), (⟨"SessionGateModel", "codedAt", "(II)I"⟩, 36)]
theorem lw_r2 : ∀ q ∈ lw_privs_2, lw_okq q := List.forall_mem_cons.mpr ⟨lw_p16, List.forall_mem_cons.mpr ⟨lw_p17, List.forall_mem_cons.mpr ⟨lw_p18, List.forall_mem_cons.mpr ⟨lw_p19, List.forall_mem_cons.mpr ⟨lw_p20, List.forall_mem_cons.mpr ⟨lw_p21, List.forall_mem_cons.mpr ⟨lw_p22, List.forall_mem_cons.mpr ⟨lw_p23, List.forall_mem_cons.mpr ⟨lw_p24, List.forall_mem_cons.mpr ⟨lw_p25, List.forall_mem_cons.mpr ⟨lw_p26, List.forall_mem_cons.mpr ⟨lw_p27, List.forall_mem_cons.mpr ⟨lw_p28, List.forall_mem_cons.mpr ⟨lw_p29, List.forall_mem_cons.mpr ⟨lw_p30, List.forall_mem_cons.mpr ⟨lw_p31, fun _ h => absurd h List.not_mem_nil⟩⟩⟩⟩⟩⟩⟩⟩⟩⟩⟩⟩⟩⟩⟩⟩
theorem lw_p32 : lw_okq (⟨"SessionGateModel", "token", "(I)V"⟩, 36) := ⟨⟨by decide +kernel, by decide +kernel⟩, List.mem_of_getElem? (i := 690) (by decide +kernel), List.mem_of_getElem? (i := 973) (by decide +kernel), List.mem_of_getElem? (i := 974) (by decide +kernel)⟩
theorem lw_p33 : lw_okq (⟨"SessionGateModel", "look", "(Z)I"⟩, 36) := ⟨⟨by decide +kernel, by decide +kernel⟩, List.mem_of_getElem? (i := 690) (by decide +kernel), List.mem_of_getElem? (i := 981) (by decide +kernel), List.mem_of_getElem? (i := 982) (by decide +kernel)⟩
theorem lw_p34 : lw_okq (⟨"SessionGateModel", "isForm", "()Z"⟩, 36) := ⟨⟨by decide +kernel, by decide +kernel⟩, List.mem_of_getElem? (i := 690) (by decide +kernel), List.mem_of_getElem? (i := 985) (by decide +kernel), List.mem_of_getElem? (i := 986) (by decide +kernel)⟩
theorem lw_p35 : lw_okq (⟨"SessionGateModel", "isLive", "(I)Z"⟩, 36) := ⟨⟨by decide +kernel, by decide +kernel⟩, List.mem_of_getElem? (i := 690) (by decide +kernel), List.mem_of_getElem? (i := 992) (by decide +kernel), List.mem_of_getElem? (i := 993) (by decide +kernel)⟩
theorem lw_p36 : lw_okq (⟨"SessionGateModel", "typed", "(III)I"⟩, 36) := ⟨⟨by decide +kernel, by decide +kernel⟩, List.mem_of_getElem? (i := 690) (by decide +kernel), List.mem_of_getElem? (i := 1011) (by decide +kernel), List.mem_of_getElem? (i := 1012) (by decide +kernel)⟩
def lw_privs_3 : List (MethodName × Nat) := [(⟨"SessionGateModel", "token", "(I)V"⟩, 36), (⟨"SessionGateModel", "look", "(Z)I"⟩, 36), (⟨"SessionGateModel", "isForm", "()Z"⟩, 36), (⟨"SessionGateModel", "isLive", "(I)Z"⟩, 36), (⟨"SessionGateModel", "typed", "(III)I"⟩, 36)]
theorem lw_r3 : ∀ q ∈ lw_privs_3, lw_okq q := List.forall_mem_cons.mpr ⟨lw_p32, List.forall_mem_cons.mpr ⟨lw_p33, List.forall_mem_cons.mpr ⟨lw_p34, List.forall_mem_cons.mpr ⟨lw_p35, List.forall_mem_cons.mpr ⟨lw_p36, fun _ h => absurd h List.not_mem_nil⟩⟩⟩⟩⟩
def lw_privs : List (MethodName × Nat) := lw_privs_1 ++ (lw_privs_2 ++ (lw_privs_3))
def lw_tbl : List Cond := k2_sels lw_privs ++ tables_1
theorem lw_privs_ok : ∀ q ∈ lw_privs, lw_okq q := by
  show ∀ q ∈ lw_privs_1 ++ (lw_privs_2 ++ (lw_privs_3)), lw_okq q
  exact List.forall_mem_append.mpr ⟨lw_r1, List.forall_mem_append.mpr ⟨lw_r2, lw_r3⟩⟩
end
section
/-! ===== BEGIN words of one list among another's, by their places ===== -/
theorem goodIn_r {big : List Cond} (ws : List Cond) (ps : List Nat) (hp : ws = ps.filterMap (fun i => big[i]?)) (h : ws.all goodWord = true) : GoodIn big ws := by
  intro w hw
  have h1 := List.all_eq_true.mp h w hw
  rw [hp] at hw
  obtain ⟨i, -, hi⟩ := List.mem_filterMap.mp hw
  have hm : w ∈ big := by first | exact List.mem_of_getElem? hi | exact List.getElem?_mem hi
  exact ⟨hm, good_of_word h1⟩
theorem goodIn_app {big a b : List Cond} (ha : GoodIn big a) (hb : GoodIn big b) : GoodIn big (a ++ b) := fun w h => (List.mem_append.mp h).elim (ha w) (hb w)
theorem goodIn_ca {big a b : List Cond} {c : Cond} (ha : GoodIn big (c :: a)) (hb : GoodIn big b) : GoodIn big (c :: (a ++ b)) := fun w h => (List.mem_cons.mp h).elim (fun e => ha w (List.mem_cons.mpr (Or.inl e))) (fun h => (List.mem_append.mp h).elim (fun h => ha w (List.mem_cons.mpr (Or.inr h))) (hb w))
theorem goodIn_sub {big ws : List Cond} (hm : ∀ w ∈ ws, w ∈ big) (h : ws.all goodWord = true) : GoodIn big ws := fun w hw => ⟨hm w hw, good_of_word (List.all_eq_true.mp h w hw)⟩
/-! ===== END ===== -/

/-! ===== BEGIN exceptions that leave a method, and their catching by the caller (launches without stack traces) ===== -/
section VXA
/-! The laws vx_back, vx_callV, vx_callS, vx_callSW, vx_throw0, vx_throwS follow proofs of the library, with one case more: JvmDerived/Free/Laws.lean (Back.of_free), Shelf42/LK1.lean (callV, callS), Shelf/KitTraced.lean (throwNew0V, throwNewS). -/
/-- where a method has thrown q: the class by its name, the cell, what was written, the world -/
def vx_T (XC : String → State → State → Prop) (st : State) (q : Addr) (t : State) (mc ms : Nat) (free : Addr → Prop) : Prop :=
  ∃ (E : String) (ce : Cell) (L : List Loc), XC E st t ∧ t.heap[q]? = some ce ∧ ce.vm = .none ∧ st.vm.findClass E = some ce.cls ∧ st.WarmedH t.vm ∧ st.sameButNew ({ t with vm := st.vm } : State) L mc ms ∧ ∀ z ∈ L, free z.base
def vx_Q (Qc : Array Value → State → Outcome → State → Prop) (XC : String → State → State → Prop) (mc ms : Nat) (free : Addr → Prop) : Array Value → State → Outcome → State → Prop := fun a st o t =>
  (Qc a st o t ∧ ∃ L, FrameEnd st o t L mc ms ∧ ∀ q ∈ L, free q.base) ∨ ∃ q, o = .threw q ∧ vx_T XC st q t mc ms free
/-- a callee that returns or throws -/
def vx_Met (l : Launch) (y : MethodName) (ws : List Cond) (rm : Room) (Pc : Array Value → State → Prop) (Qc : Array Value → State → Outcome → State → Prop) (XC : String → State → State → Prop) (mc ms : Nat) (free : Addr → Prop) : Prop :=
  MetFree l y (headSpec ws rm) Pc (fun _ _ _ _ _ => True) (vx_Q Qc XC mc ms free)
def vx_Post (XC : String → State → State → Prop) (mc ms : Nat) (free : Addr → Prop) : Pt → Array Value → Addr → Pt → Prop := fun A a q B =>
  ∃ (g : JFrame) (mk : MethodId) (t : State) (L : List Loc) (E : String) (ce : Cell), B.U.heap = t.heap ∧ B.U.vm = t.vm ∧ XC E (A.U.calling g mk a) t ∧ t.heap[q]? = some ce ∧ ce.vm = .none ∧ A.U.vm.findClass E = some ce.cls ∧ B.locs = A.locs ++ L ∧ (∀ z ∈ L, free z.base) ∧ B.cells = A.cells + mc ∧ B.slots = A.slots + ms
def vx_Back (l : Launch) (R : Room) (p : Program) (e : Env) (below : List Frame) (s : State) (sargs : Array Value) (y : MethodName) (len W9 : Nat)
    (Pre : Pt → Array Value → Prop) (Post : Pt → Array Value → Option Value → Pt → Prop) (PostX : Pt → Array Value → Addr → Pt → Prop) : Prop :=
  ∀ (m : MethodId) (meth : Method) (c : Code) (A : Pt) (g : JFrame) (ig : Instr) (mk : MethodId) (a : Array Value),
    Stand p l e R s m sargs below meth c A.U A.locs A.cells A.slots → g.method = m → g.locals.size = c.maxLocals → decode c.code g.pc = .ok (ig, len) →
    2 * g.monitorRoom + (g.stack.map fun v => v.category).sum ≤ W9 → A.U.methodNamed? y = some mk → Pre A a →
    (∃ (v : Option Value) (B : Pt), Stand p l e R s m sargs below meth c B.U B.locs B.cells B.slots ∧ Post A a v B ∧
      Steps p.tables e below (doInvoke e (A.U.setTop g) [] mk a).1 (B.U.setTop { g with pc := g.pc + len, stack := v.toList ++ g.stack })) ∨
    (∃ (q : Addr) (B : Pt), Stand p l e R s m sargs below meth c B.U B.locs B.cells B.slots ∧ PostX A a q B ∧
      Steps p.tables e below (doInvoke e (A.U.setTop g) [] mk a).1 ((B.U.setTop g).pushFrame (.throwing q)))
section Payer
variable {l : Launch} {R : Room} {p : Program} {e : Env} {below : List Frame} {s : State} {sargs : Array Value} {y : MethodName} {len W9 : Nat}
theorem vx_back {ws : List Cond} {rm : Room} {Pc : Array Value → State → Prop} {Qc : Array Value → State → Outcome → State → Prop} {XC : String → State → State → Prop} {mc ms : Nat} {free : Addr → Prop} {bytes : ByteArray} {maxL : Nat} {ret : Option FieldType}
    (hM : vx_Met l y ws rm Pc Qc XC mc ms free) (hblind : FrameBlind Pc) (hrc : rm.cells = mc) (hrs : rm.slots = ms)
    (hframes : rm.frames + 1 ≤ R.frames) (hlocals : W9 + (maxL + 11) + rm.locals ≤ R.locals)
    (hws : ∀ w ∈ ws, ∀ a' U, s.WarmedH U.vm → w.before a' U = true) (hcode : Cond.code y bytes maxL ret ∈ ws) (hinit : ∀ a' U, s.WarmedH U.vm → (Cond.initialized y.cls).before a' U = true) :
    vx_Back l R p e below s sargs y len W9 (PreOf R mc ms Pc) (PostOf Qc mc ms free) (vx_Post XC mc ms free) := by
  intro m meth c A g ig mk a X hg hsize hdg hW hn hp
  have h1 : (headSpec ws rm).pre.before a A.U = true := atoms_intro fun w hw => hws w hw _ _ X.warmed
  have h2 : (Cond.code y bytes maxL ret).before a A.U = true := hws _ hcode _ _ X.warmed
  have h3 : (Cond.initialized y.cls).before a A.U = true := hinit _ _ X.warmed
  have h4 : A.cells + (headSpec ws rm).room.cells ≤ R.cells := by rw [show (headSpec ws rm).room.cells = mc from hrc]; exact hp.1
  have h5 : A.slots + (headSpec ws rm).room.slots ≤ R.slots := by rw [show (headSpec ws rm).room.slots = ms from hrs]; exact hp.2.1
  have hPc : Pc a (A.U.calling g mk a) := hblind _ _ _ _ hp.2.2
  obtain ⟨U, Ls, c0, s0⟩ := A
  dsimp only [Pt.U, Pt.locs, Pt.cells, Pt.slots] at h1 h2 h3 h4 h5 X hn hPc ⊢
  obtain ⟨methY, cY, hmY, hcY, -, hlY, -, -, -, -⟩ := Cond.code_spec hn h2
  obtain ⟨kY, hkY, -⟩ := className_of_methodNamed hn
  have hinitY : kY.init = .initialized := Cond.initialized_spec (findClass_of_methodNamed hn) hkY h3
  have h : At U g.method c below := by rw [hg]; exact X.here
  have hlocals9 : W9 + (maxL + 11) + (headSpec ws rm).room.locals ≤ R.locals := hlocals
  have happ : (headSpec ws rm).appliesLoose y e.platform (U.calling g mk a) = true :=
    Spec.appliesLoose_calling (g := g) h hdg hn hkY hinitY
      (X.room_calling (g := g) (R' := (headSpec ws rm).room) hsize hmY hcY hframes (by rw [hlY]; omega) h4 h5) h1
  obtain ⟨mid, hmid⟩ := h.above
  have hfr : (U.setTop g).frames = (.java g :: mid) ++ below := by rw [State.frames_setTop' g h.top, hmid]; rfl
  obtain ⟨o, s₂, hsteps, -, hend, hq⟩ := Steps.callFree hM p X.admits X.cas X.clock (acts := []) hfr happ hPc trivial
  have hq' : vx_Q Qc XC mc ms free a (U.calling g mk a) o s₂ := hq
  rw [State.frames_setTop' g h.top] at hend
  obtain ⟨g₀, hg0⟩ := Option.isSome_iff_exists.mp h.top
  obtain ⟨r, hr⟩ := State.topJava?_eq_some.mp hg0
  have hr' : (({ U with heap := s₂.heap, slotsUsed := s₂.slotsUsed } : State).setVm s₂.vm).frames = .java g₀ :: r := hr
  rcases hq' with ⟨hqc, L, hfe, hL⟩ | ⟨q, rfl, E, ce, L, hx, hce, hcv, hcl, hW₂, hsm, hL⟩
  · obtain ⟨⟨v, rfl⟩, hW₂, e2, q2, q3, q4, q5, q6⟩ := id hfe
    have e3 : s₂ = ({ (U.calling g mk a).setFrames s₂.frames with heap := s₂.heap, slotsUsed := s₂.slotsUsed } : State).setVm s₂.vm := by
      have : s₂ = ({ s₂ with vm := (U.calling g mk a).vm } : State).setVm s₂.vm := rfl
      rw [e2] at this
      exact this
    obtain ⟨c₂, i₂, len₂, hc₂, hd₂, hf₂⟩ := hend
    have hW' : U.WarmedH s₂.vm := hW₂
    have hcc : c₂ = c := by
      have h1 : s₂.code? g.method = U.code? g.method := by
        rw [State.code?_eq, State.code?_eq, hW'.alike.method?]
      exact Option.some.inj (hc₂.symm.trans (h1.trans h.code))
    subst hcc
    have hlen : len₂ = len := by rw [hdg] at hd₂; cases hd₂; rfl
    subst hlen
    have hs₂ : s₂ = (({ U with heap := s₂.heap, slotsUsed := s₂.slotsUsed } : State).setVm s₂.vm).setTop { g with pc := g.pc + len₂, stack := v.toList ++ g.stack } := by
      refine e3.trans ?_
      rw [hf₂, State.calling_eq h.top, State.setFrames_setFrames, State.setTop_of_frames _ hr', hr]
      rfl
    have hsame : U.sameButNew ({ U with heap := s₂.heap, slotsUsed := s₂.slotsUsed } : State) L mc ms := by
      refine ⟨?_, q2, q3, q4, q5, q6⟩
      obtain ⟨t, ht, -⟩ := State.frames_cons hr
      show ({ U with heap := s₂.heap, slotsUsed := s₂.slotsUsed } : State) = { U.setFrames U.frames with heap := s₂.heap, slotsUsed := s₂.slotsUsed }
      rw [State.setFrames_self ht]
    subst hg
    refine Or.inl ⟨v, ⟨(({ U with heap := s₂.heap, slotsUsed := s₂.slotsUsed } : State).setVm s₂.vm), Ls ++ L, c0 + mc, s0 + ms⟩,
      ⟨X.admits, X.cas, X.clock, X.frames, X.room, X.hears, X.method, X.code, (X.here.setHeapUsed s₂.heap s₂.slotsUsed).setVm hW'.alike, X.tail, State.WarmedH.trans X.warmed hW', X.limits, X.bytes, X.same.trans (hsame.setVm s.vm)⟩,
      ⟨g, mk, s₂, L, rfl, rfl, hqc, rfl, hL, rfl, rfl⟩, ?_⟩
    show Steps p.tables e below _ ((({ U with heap := s₂.heap, slotsUsed := s₂.slotsUsed } : State).setVm s₂.vm).setTop { g with pc := g.pc + len₂, stack := v.toList ++ g.stack })
    rw [← hs₂]
    exact hsteps
  · obtain ⟨e2, q2, q3, q4, q5, q6⟩ := id hsm
    have e3 : s₂ = ({ (U.calling g mk a).setFrames s₂.frames with heap := s₂.heap, slotsUsed := s₂.slotsUsed } : State).setVm s₂.vm := by
      have : s₂ = ({ s₂ with vm := (U.calling g mk a).vm } : State).setVm s₂.vm := rfl
      rw [e2] at this
      exact this
    have hf₂ : s₂.frames = .throwing q :: .java g :: U.frames.tail := hend
    have hW' : U.WarmedH s₂.vm := hW₂
    have hs₂ : s₂ = ((({ U with heap := s₂.heap, slotsUsed := s₂.slotsUsed } : State).setVm s₂.vm).setTop g).pushFrame (.throwing q) := by
      refine e3.trans ?_
      rw [hf₂, State.calling_eq h.top, State.setFrames_setFrames, State.pushFrame, State.frames_setTop _ hr', State.setTop_of_frames _ hr', State.setFrames_setFrames, hr]
      rfl
    have hsame : U.sameButNew ({ U with heap := s₂.heap, slotsUsed := s₂.slotsUsed } : State) L mc ms := by
      refine ⟨?_, q2, q3, q4, q5, q6⟩
      obtain ⟨t, ht, -⟩ := State.frames_cons hr
      show ({ U with heap := s₂.heap, slotsUsed := s₂.slotsUsed } : State) = { U.setFrames U.frames with heap := s₂.heap, slotsUsed := s₂.slotsUsed }
      rw [State.setFrames_self ht]
    subst hg
    refine Or.inr ⟨q, ⟨(({ U with heap := s₂.heap, slotsUsed := s₂.slotsUsed } : State).setVm s₂.vm), Ls ++ L, c0 + mc, s0 + ms⟩,
      ⟨X.admits, X.cas, X.clock, X.frames, X.room, X.hears, X.method, X.code, (X.here.setHeapUsed s₂.heap s₂.slotsUsed).setVm hW'.alike, X.tail, State.WarmedH.trans X.warmed hW', X.limits, X.bytes, X.same.trans (hsame.setVm s.vm)⟩,
      ⟨g, mk, s₂, L, E, ce, rfl, rfl, hx, hce, hcv, hcl, rfl, hL, rfl, rfl⟩, ?_⟩
    show Steps p.tables e below _ (((({ U with heap := s₂.heap, slotsUsed := s₂.slotsUsed } : State).setVm s₂.vm).setTop g).pushFrame (.throwing q))
    rw [← hs₂]
    exact hsteps
end Payer
section Calls
variable {p : Program} {l : Launch} {e : Env} {R : Room} {s : State} {m : MethodId} {args : Array Value} {below : List Frame} {meth : Method} {c : Code} {T : State} {locs : List Loc} {cells slots : Nat}
theorem vx_callV (X : Stand p l e R s m args below meth c T locs cells slots) (hexec : p.tables.exec = Jvm.exec) {own C : String} {index : Nat} {y : MethodName} {bytes : ByteArray} {maxL : Nat} {ret : Option FieldType}
    (hown : s.vm.findClass own = some m.cls) (hlink : (Cond.methodLink own index y).before args s = true) (hinst : (Cond.instanceMethod y).before args s = true) (hsel : (Cond.selects C y y).before args s = true)
    (hcode : (Cond.code y bytes maxL ret).before args s = true) (hy : y.cls ≠ "java/lang/invoke/MethodHandle" ∧ y.cls ≠ "java/lang/invoke/VarHandle")
    {W9 : Nat} {Pre : Pt → Array Value → Prop} {Post : Pt → Array Value → Option Value → Pt → Prop} {PostX : Pt → Array Value → Addr → Pt → Prop} (hK : vx_Back l R p e below s args y 3 W9 Pre Post PostX)
    {b : Addr} {cellB : Cell} (hcell : T.heap[b]? = some cellB) (hobj : cellB.vm.isStatics = false) (hcls : s.vm.findClass C = some cellB.cls)
    {g : JFrame} (hg : g.method = m) (hsize : g.locals.size = c.maxLocals) {argsL rest : List Value} (hlen : ∀ sig, parseMethodDescriptor y.desc = some sig → argsL.length = sig.parameters.length)
    (hstack : g.stack = argsL.reverse ++ .ref b :: rest) (hW : 2 * g.monitorRoom + (rest.map fun v => v.category).sum ≤ W9) (hdg : decode c.code g.pc = .ok (.invokevirtual index, 3))
    (hpre : ∀ vm₁, s.WarmedH vm₁ → Pre ⟨T.setVm vm₁, locs, cells, slots⟩ (Value.ref b :: argsL).toArray) :
    (∃ (v : Option Value) (vm₁ : Vm) (B : Pt), s.WarmedH vm₁ ∧ Stand p l e R s m args below meth c B.U B.locs B.cells B.slots ∧ Post ⟨T.setVm vm₁, locs, cells, slots⟩ (Value.ref b :: argsL).toArray v B ∧
      ∀ target, Steps p.tables e below (B.U.setTop { g with pc := g.pc + 3, stack := v.toList ++ rest }) target → Steps p.tables e below (T.setTop g) target) ∨
    (∃ (q : Addr) (vm₁ : Vm) (B : Pt), s.WarmedH vm₁ ∧ Stand p l e R s m args below meth c B.U B.locs B.cells B.slots ∧ PostX ⟨T.setVm vm₁, locs, cells, slots⟩ (Value.ref b :: argsL).toArray q B ∧
      Steps p.tables e below (T.setTop g) ((B.U.setTop { g with stack := rest }).pushFrame (.throwing q))) := by
  obtain ⟨mk, methM, hnamed, hmethM, hstM, habM⟩ := Cond.instanceMethod_spec hinst
  obtain ⟨methM', cM, hmethM', -, -, -, -, -, -, hsigM⟩ := Cond.code_spec hnamed hcode
  cases hmethM.symm.trans hmethM'
  obtain ⟨c2, r2, m2, q1, q2, q3, q4, kP, hkP, hkPi⟩ := Cond.selects_spec hsel
  cases hcls.symm.trans q1
  cases (State.methodFound?_of_named hnamed hy).symm.trans q2
  cases hnamed.symm.trans q3
  have hselP : selectMethod e.platform s.vm cellB.cls mk = .method mk := by rw [Launch.admits_selectMethod X.admits]; exact q4
  obtain ⟨vm₁, X₁, hstep₁⟩ := X.invokevirtual hexec hown hlink hnamed hmethM hstM hkP hkPi hy (a := b) (cell := cellB) hcell
    (fun z h => by rw [h] at hobj; cases hobj) hselP hmethM habM hkP hkPi (g := g) hg (argsL := argsL) (rest := rest) (hlen _ hsigM) hstack hdg
  rcases hK m meth c ⟨T.setVm vm₁, locs, cells, slots⟩ { g with stack := rest } (.invokevirtual index) mk (Value.ref b :: argsL).toArray X₁ hg hsize hdg hW (X₁.named hnamed) (hpre vm₁ X₁.warmed) with ⟨v, B, X', hpost, hsteps⟩ | ⟨q, B, X', hpost, hsteps⟩
  · exact Or.inl ⟨v, vm₁, B, X₁.warmed, X', hpost, fun target h => hstep₁ _ fun acts => by rw [doInvoke_state]; exact hsteps.trans h⟩
  · exact Or.inr ⟨q, vm₁, B, X₁.warmed, X', hpost, hstep₁ _ fun acts => by rw [doInvoke_state]; exact hsteps⟩
theorem vx_callS (X : Stand p l e R s m args below meth c T locs cells slots) (hexec : p.tables.exec = Jvm.exec) {own : String} {index : Nat} {y : MethodName} {bytes : ByteArray} {maxL : Nat} {ret : Option FieldType}
    (hown : s.vm.findClass own = some m.cls) (hlink : (Cond.methodLink own index y).before args s = true) (hstat : (Cond.static y).before args s = true) (hinit : (Cond.initialized y.cls).before args s = true)
    (hcode : (Cond.code y bytes maxL ret).before args s = true) (hy : y.cls ≠ "java/lang/invoke/MethodHandle" ∧ y.cls ≠ "java/lang/invoke/VarHandle")
    {W9 : Nat} {Pre : Pt → Array Value → Prop} {Post : Pt → Array Value → Option Value → Pt → Prop} {PostX : Pt → Array Value → Addr → Pt → Prop} (hK : vx_Back l R p e below s args y 3 W9 Pre Post PostX)
    {g : JFrame} (hg : g.method = m) (hsize : g.locals.size = c.maxLocals) {argsL rest : List Value} (hlen : ∀ sig, parseMethodDescriptor y.desc = some sig → argsL.length = sig.parameters.length)
    (hstack : g.stack = argsL.reverse ++ rest) (hW : 2 * g.monitorRoom + (rest.map fun v => v.category).sum ≤ W9) (hdg : decode c.code g.pc = .ok (.invokestatic index, 3))
    (hpre : ∀ vm₁, s.WarmedH vm₁ → Pre ⟨T.setVm vm₁, locs, cells, slots⟩ argsL.toArray) :
    (∃ (v : Option Value) (vm₁ : Vm) (B : Pt), s.WarmedH vm₁ ∧ Stand p l e R s m args below meth c B.U B.locs B.cells B.slots ∧ Post ⟨T.setVm vm₁, locs, cells, slots⟩ argsL.toArray v B ∧
      ∀ target, Steps p.tables e below (B.U.setTop { g with pc := g.pc + 3, stack := v.toList ++ rest }) target → Steps p.tables e below (T.setTop g) target) ∨
    (∃ (q : Addr) (vm₁ : Vm) (B : Pt), s.WarmedH vm₁ ∧ Stand p l e R s m args below meth c B.U B.locs B.cells B.slots ∧ PostX ⟨T.setVm vm₁, locs, cells, slots⟩ argsL.toArray q B ∧
      Steps p.tables e below (T.setTop g) ((B.U.setTop { g with stack := rest }).pushFrame (.throwing q))) := by
  obtain ⟨mk, hnamed⟩ := Cond.code_named hcode
  obtain ⟨methM, cM, hmethM, -, -, -, -, -, -, hsigM⟩ := Cond.code_spec hnamed hcode
  have hstatic : methM.isStatic = true := Cond.static_spec hnamed hmethM hstat
  obtain ⟨kP, hkP, -⟩ := className_of_methodNamed hnamed
  have hinitP : kP.init = .initialized := Cond.initialized_spec (findClass_of_methodNamed hnamed) hkP hinit
  obtain ⟨vm₁, X₁, hstep₁⟩ := X.invokestatic hexec hown hlink hnamed hmethM hstatic hkP hinitP hy (g := g) hg (argsL := argsL) (rest := rest) (hlen _ hsigM) hstack hdg
  rcases hK m meth c ⟨T.setVm vm₁, locs, cells, slots⟩ { g with stack := rest } (.invokestatic index) mk argsL.toArray X₁ hg hsize hdg hW (X₁.named hnamed) (hpre vm₁ X₁.warmed) with ⟨v, B, X', hpost, hsteps⟩ | ⟨q, B, X', hpost, hsteps⟩
  · exact Or.inl ⟨v, vm₁, B, X₁.warmed, X', hpost, fun target h => hstep₁ _ fun acts => by rw [doInvoke_state]; exact hsteps.trans h⟩
  · exact Or.inr ⟨q, vm₁, B, X₁.warmed, X', hpost, hstep₁ _ fun acts => by rw [doInvoke_state]; exact hsteps⟩
end Calls
theorem vx_cls {s : State} {T : State} {vm₁ : Vm} {E : String} {k : ClassId} (hW : s.WarmedH vm₁) (h : (T.setVm vm₁).vm.findClass E = some k) : s.vm.findClass E = some k := by
  have h1 : vm₁.findClass E = some k := h
  rw [hW.alike.findClass] at h1
  exact h1
/-- the method's frame g, with q thrown over it -/
def vx_W (p : Program) (l : Launch) (e : Env) (R : Room) (s : State) (m : MethodId) (args : Array Value) (below : List Frame) (meth : Method) (c : Code) (H : Heap) (locs : List Loc) (cells slots : Nat) (Q : State → Prop) (g : JFrame) (q : Addr) : Prop :=
  ∀ T : State, T.heap = H → Stand p l e R s m args below meth c T locs cells slots → ∃ t, Steps p.tables e below ((T.setTop g).pushFrame (.throwing q)) t ∧ Q t
def vx_Run (p : Program) (l : Launch) (e : Env) (R : Room) (s : State) (m : MethodId) (args : Array Value) (below : List Frame) (meth : Method) (c : Code) (H : Heap) (locs : List Loc) (cells slots mc ms : Nat) (g : JFrame) (rest : List Value) (Qa : State → Outcome → State → Prop) (XC : String → State → State → Prop) (free : Addr → Prop) : Prop :=
  ∀ T : State, T.heap = H → Stand p l e R s m args below meth c T locs cells slots →
    (∃ (v : Option Value) (st₀ t T' : State) (L : List Loc), st₀.heap = H ∧ Stand p l e R s m args below meth c T' (locs ++ L) (cells + mc) (slots + ms) ∧ (∀ q ∈ L, free q.base) ∧ T'.heap = t.heap ∧ T'.vm = t.vm ∧ Qa st₀ (.returned v) t ∧
      Goes p e below T g T' { g with pc := g.pc + 3, stack := v.toList ++ rest }) ∨
    (∃ (q : Addr) (st₀ t T' : State) (L : List Loc) (E : String) (ce : Cell), st₀.heap = H ∧ Stand p l e R s m args below meth c T' (locs ++ L) (cells + mc) (slots + ms) ∧ (∀ z ∈ L, free z.base) ∧ T'.heap = t.heap ∧ T'.vm = t.vm ∧ XC E st₀ t ∧ t.heap[q]? = some ce ∧ ce.vm = .none ∧ s.vm.findClass E = some ce.cls ∧
      Steps p.tables e below (T.setTop g) ((T'.setTop { g with stack := rest }).pushFrame (.throwing q)))
def vx_X {S : Type} (px : S → Prop) (B : String → S → State → Prop) (A : Nat → Prop) : String → State → State → Prop := fun E st t => ∃ u : S, px u ∧ B E u t ∧ va_F A st t
section Runs
variable {p : Program} {l : Launch} {e : Env} {R : Room} {s : State} {m : MethodId} {args : Array Value} {below : List Frame} {meth : Method} {c : Code} {H : Heap} {locs : List Loc} {cells slots : Nat}
variable {y : MethodName} {bytes cc : ByteArray} {maxL nL mc ms n index : Nat} {ret : Option FieldType} {ws : List Cond} {rm : Room} {Pc : Array Value → State → Prop} {Qc : Array Value → State → Outcome → State → Prop} {XC : String → State → State → Prop} {free : Addr → Prop} {Ts : List Cond} {own C : String} {b : Addr} {As rest : List Value} {g : JFrame}
theorem vx_callBack (cb : CallB R s args own index y bytes maxL ret ws rm mc ms n) (hM : vx_Met l y ws rm Pc Qc XC mc ms free) (hbl : FrameBlind Pc) : vx_Back l R p e below s args y 3 8 (PreOf R mc ms Pc) (PostOf Qc mc ms free) (vx_Post XC mc ms free) := by
  obtain ⟨hrc, hrs, hfr, hlo, hws, hcw, -, hini, -⟩ := cb
  exact vx_back (bytes := bytes) (maxL := maxL) (ret := ret) hM hbl hrc hrs hfr hlo hws hcw (fun a' U hW => word_at hW (Or.inl (by first | rfl | simp [Cond.onTables, Cond.keeps, Cond.steady])) hini)
theorem vx_runV (S : CallFix p m c cc nL s args Ts own) (hM : vx_Met l y ws rm Pc Qc XC mc ms free) (cw : CallW R s args own C index y bytes maxL ret ws rm mc ms n) (hp : PreV s H C b Pc As)
    (hg : g.method = m) (hn : As.length = n) (hsize : g.locals.size = nL) (hstack : g.stack = As.reverse ++ .ref b :: rest) (hW : 2 * g.monitorRoom + (rest.map fun v => v.category).sum ≤ 8) (hdg : decode cc g.pc = .ok (.invokevirtual index, 3)) (hf : cells + mc ≤ R.cells ∧ slots + ms ≤ R.slots) :
    vx_Run p l e R s m args below meth c H locs cells slots mc ms g rest (Qc (Value.ref b :: As).toArray) XC free := by
  have hK : vx_Back l R p e below s args y 3 8 (PreOf R mc ms Pc) (PostOf Qc mc ms free) (vx_Post XC mc ms free) := vx_callBack cw.1 hM hp.1
  obtain ⟨⟨-, -, -, -, -, -, hcode, -, hy, hlen, hl⟩, hin, hse⟩ := cw
  obtain ⟨hx, hb, hml, ho, -⟩ := S
  obtain ⟨-, ⟨cellB, hcB, hoB, hclB⟩, hPc⟩ := hp
  intro T hT X
  rcases vx_callV X hx (C := C) (bytes := bytes) (maxL := maxL) (ret := ret) ho hl hin hse hcode hy hK (by rw [hT]; exact hcB) hoB hclB hg (hsize.trans hml.symm) (argsL := As) (rest := rest) (fun sig h => hn.trans (hlen sig h)) hstack hW (by rw [hb]; exact hdg)
    (fun vm₁ hW₁ => ⟨hf.1, hf.2, hPc (T.setVm vm₁) hT hW₁⟩) with ⟨v, vm₁, ⟨U', l2, c2, s2⟩, hW₁, X', ⟨g', mk, t, L, e1, e2, hq, h1, hL, h2, h3⟩, st⟩ | ⟨q, vm₁, ⟨U', l2, c2, s2⟩, hW₁, X', ⟨g', mk, t, L, E, ce, e1, e2, hq, hce, hcv, hcl, h1, hL, h2, h3⟩, st⟩
  · dsimp only [Pt.U, Pt.locs, Pt.cells, Pt.slots] at X' e1 e2 h1 h2 h3 st
    subst h1; subst h2; subst h3
    exact Or.inl ⟨v, (T.setVm vm₁).calling g' mk (Value.ref b :: As).toArray, t, U', L, hT, X', hL, e1, e2, hq, st⟩
  · dsimp only [Pt.U, Pt.locs, Pt.cells, Pt.slots] at X' e1 e2 h1 h2 h3 st hcl
    subst h1; subst h2; subst h3
    exact Or.inr ⟨q, (T.setVm vm₁).calling g' mk (Value.ref b :: As).toArray, t, U', L, E, ce, hT, X', hL, e1, e2, hq, hce, hcv, vx_cls hW₁ hcl, st⟩
theorem vx_runS (S : CallFix p m c cc nL s args Ts own) (hM : vx_Met l y ws rm Pc Qc XC mc ms free) (cw : CallB R s args own index y bytes maxL ret ws rm mc ms n ∧ (Cond.static y).before args s = true) (hp : PreS s H Pc As)
    (hg : g.method = m) (hn : As.length = n) (hsize : g.locals.size = nL) (hstack : g.stack = As.reverse ++ rest) (hW : 2 * g.monitorRoom + (rest.map fun v => v.category).sum ≤ 8) (hdg : decode cc g.pc = .ok (.invokestatic index, 3)) (hf : cells + mc ≤ R.cells ∧ slots + ms ≤ R.slots) :
    vx_Run p l e R s m args below meth c H locs cells slots mc ms g rest (Qc As.toArray) XC free := by
  have hK : vx_Back l R p e below s args y 3 8 (PreOf R mc ms Pc) (PostOf Qc mc ms free) (vx_Post XC mc ms free) := vx_callBack cw.1 hM hp.1
  obtain ⟨⟨-, -, -, -, -, -, hcode, hini, hy, hlen, hl⟩, hstt⟩ := cw
  obtain ⟨hx, hb, hml, ho, -⟩ := S
  intro T hT X
  rcases vx_callS X hx (bytes := bytes) (maxL := maxL) (ret := ret) ho hl hstt hini hcode hy hK hg (hsize.trans hml.symm) (argsL := As) (rest := rest) (fun sig h => hn.trans (hlen sig h)) hstack hW (by rw [hb]; exact hdg)
    (fun vm₁ hW₁ => ⟨hf.1, hf.2, hp.2 (T.setVm vm₁) hT hW₁⟩) with ⟨v, vm₁, ⟨U', l2, c2, s2⟩, hW₁, X', ⟨g', mk, t, L, e1, e2, hq, h1, hL, h2, h3⟩, st⟩ | ⟨q, vm₁, ⟨U', l2, c2, s2⟩, hW₁, X', ⟨g', mk, t, L, E, ce, e1, e2, hq, hce, hcv, hcl, h1, hL, h2, h3⟩, st⟩
  · dsimp only [Pt.U, Pt.locs, Pt.cells, Pt.slots] at X' e1 e2 h1 h2 h3 st
    subst h1; subst h2; subst h3
    exact Or.inl ⟨v, (T.setVm vm₁).calling g' mk As.toArray, t, U', L, hT, X', hL, e1, e2, hq, st⟩
  · dsimp only [Pt.U, Pt.locs, Pt.cells, Pt.slots] at X' e1 e2 h1 h2 h3 st hcl
    subst h1; subst h2; subst h3
    exact Or.inr ⟨q, (T.setVm vm₁).calling g' mk As.toArray, t, U', L, E, ce, hT, X', hL, e1, e2, hq, hce, hcv, vx_cls hW₁ hcl, st⟩
end Runs
section Rows
variable {p : Program} {l : Launch} {e : Env} {R : Room} {s : State} {m : MethodId} {args : Array Value} {below : List Frame} {meth : Method} {c : Code} {H : Heap} {locs : List Loc} {cells slots : Nat} {Q : State → Prop}
variable {mc ms : Nat} {free : Addr → Prop} {A0 A1 : Nat → Prop} {H0 : Heap} {a : Array Value} {pc : Nat} {ls : Array Slot} {st0 rest : List Value}
theorem vx_keep {st₀ t T' : State} {L : List Loc} (h0 : st₀.heap = H) (e1 : T'.heap = t.heap) (hS : va_S A0 H0 H locs) (hA : ∀ q, q < H.size → A1 q → A0 q) (hf : ∀ q, free q → A0 q) (hL : ∀ q ∈ L, free q.base) (hF : va_F A1 st₀ t) :
    H.size ≤ T'.heap.size ∧ (∀ q : Nat, q < H.size → ¬ A1 q → T'.heap[q]? = H[q]?) ∧ va_S A0 H0 T'.heap (locs ++ L) := by
  obtain ⟨hz, hk⟩ := hF
  rw [h0] at hz hk
  exact ⟨by rw [e1]; exact hz, fun q h1 h2 => by rw [e1]; exact hk q h1 h2,
    ⟨Nat.le_trans hS.1 (by rw [e1]; exact hz), fun q h1 h2 => by rw [e1, hk q (Nat.lt_of_lt_of_le h1 hS.1) (fun z => h2 (hA q (Nat.lt_of_lt_of_le h1 hS.1) z))]; exact hS.2.1 q h1 h2, fun q hq => by
      rcases List.mem_append.mp hq with h | h
      · exact hS.2.2 q h
      · exact hf _ (hL q h)⟩⟩
theorem vx_calli {S SX : Type} {post : Int32 → S → Prop} {px : SX → Prop} {B : S → State → Prop} {BX : String → SX → State → Prop} {AX : Nat → Prop} (hr : vx_Run p l e R s m args below meth c H locs cells slots mc ms (F0 m pc ls st0) rest (va_Qi post B A1 a) (vx_X px BX AX) free) (hS : va_S A0 H0 H locs) (hA : ∀ q, q < H.size → A1 q → A0 q) (hf : ∀ q, free q → A0 q) (hAX : ∀ q, q < H.size → AX q → A0 q)
    (kx : ∀ (E : String) (ce : Cell) (q9 : Addr) (u : SX) (t : State) (H1 : Heap) (locs1 : List Loc), t.heap = H1 → s.vm.Alike t.vm → px u → BX E u t → H.size ≤ H1.size → (∀ q : Nat, q < H.size → ¬ AX q → H1[q]? = H[q]?) → va_S A0 H0 H1 locs1 → H1[q9]? = some ce → ce.vm = .none → s.vm.findClass E = some ce.cls → vx_W p l e R s m args below meth c H1 locs1 (cells + mc) (slots + ms) Q (F0 m pc ls rest) q9)
    (kk : ∀ (r : Int32) (u : S) (t : State) (H1 : Heap) (locs1 : List Loc), t.heap = H1 → s.vm.Alike t.vm → post r u → B u t → H.size ≤ H1.size → (∀ q : Nat, q < H.size → ¬ A1 q → H1[q]? = H[q]?) → va_S A0 H0 H1 locs1 → W p l e R s m args below meth c H1 locs1 (cells + mc) (slots + ms) Q (F0 m (pc + 3) ls (.int r :: rest))) : W p l e R s m args below meth c H locs cells slots Q (F0 m pc ls st0) := by
  intro T hT X
  rcases hr T hT X with ⟨v, st₀, t, T', L, h0, X', hL, e1, e2, ⟨⟨r, u, hv, hp, hb⟩, hF⟩, st⟩ | ⟨q, st₀, t, T', L, E, ce, h0, X', hL, e1, e2, ⟨u, hp, hb, hF⟩, hce, hcv, hcl, st⟩
  · cases hv
    obtain ⟨k1, k2, k3⟩ := vx_keep h0 e1 hS hA hf hL hF
    obtain ⟨t2, a1, b1⟩ := kk r u t T'.heap (locs ++ L) e1.symm (by rw [← e2]; exact X'.warmed.alike) hp hb k1 k2 k3 T' rfl X'
    exact ⟨t2, st t2 a1, b1⟩
  · obtain ⟨k1, k2, k3⟩ := vx_keep h0 e1 hS hAX hf hL hF
    obtain ⟨t2, a1, b1⟩ := kx E ce q u t T'.heap (locs ++ L) e1.symm (by rw [← e2]; exact X'.warmed.alike) hp hb k1 k2 k3 (by rw [e1]; exact hce) hcv hcl T' rfl X'
    exact ⟨t2, st.trans a1, b1⟩
theorem vx_calll {S SX : Type} {post : Int64 → S → Prop} {px : SX → Prop} {B : S → State → Prop} {BX : String → SX → State → Prop} {AX : Nat → Prop} (hr : vx_Run p l e R s m args below meth c H locs cells slots mc ms (F0 m pc ls st0) rest (va_Ql post B A1 a) (vx_X px BX AX) free) (hS : va_S A0 H0 H locs) (hA : ∀ q, q < H.size → A1 q → A0 q) (hf : ∀ q, free q → A0 q) (hAX : ∀ q, q < H.size → AX q → A0 q)
    (kx : ∀ (E : String) (ce : Cell) (q9 : Addr) (u : SX) (t : State) (H1 : Heap) (locs1 : List Loc), t.heap = H1 → s.vm.Alike t.vm → px u → BX E u t → H.size ≤ H1.size → (∀ q : Nat, q < H.size → ¬ AX q → H1[q]? = H[q]?) → va_S A0 H0 H1 locs1 → H1[q9]? = some ce → ce.vm = .none → s.vm.findClass E = some ce.cls → vx_W p l e R s m args below meth c H1 locs1 (cells + mc) (slots + ms) Q (F0 m pc ls rest) q9)
    (kk : ∀ (r : Int64) (u : S) (t : State) (H1 : Heap) (locs1 : List Loc), t.heap = H1 → s.vm.Alike t.vm → post r u → B u t → H.size ≤ H1.size → (∀ q : Nat, q < H.size → ¬ A1 q → H1[q]? = H[q]?) → va_S A0 H0 H1 locs1 → W p l e R s m args below meth c H1 locs1 (cells + mc) (slots + ms) Q (F0 m (pc + 3) ls (.long r :: rest))) : W p l e R s m args below meth c H locs cells slots Q (F0 m pc ls st0) := by
  intro T hT X
  rcases hr T hT X with ⟨v, st₀, t, T', L, h0, X', hL, e1, e2, ⟨⟨r, u, hv, hp, hb⟩, hF⟩, st⟩ | ⟨q, st₀, t, T', L, E, ce, h0, X', hL, e1, e2, ⟨u, hp, hb, hF⟩, hce, hcv, hcl, st⟩
  · cases hv
    obtain ⟨k1, k2, k3⟩ := vx_keep h0 e1 hS hA hf hL hF
    obtain ⟨t2, a1, b1⟩ := kk r u t T'.heap (locs ++ L) e1.symm (by rw [← e2]; exact X'.warmed.alike) hp hb k1 k2 k3 T' rfl X'
    exact ⟨t2, st t2 a1, b1⟩
  · obtain ⟨k1, k2, k3⟩ := vx_keep h0 e1 hS hAX hf hL hF
    obtain ⟨t2, a1, b1⟩ := kx E ce q u t T'.heap (locs ++ L) e1.symm (by rw [← e2]; exact X'.warmed.alike) hp hb k1 k2 k3 (by rw [e1]; exact hce) hcv hcl T' rfl X'
    exact ⟨t2, st.trans a1, b1⟩
theorem vx_callf {S SX : Type} {post : UInt32 → S → Prop} {px : SX → Prop} {B : S → State → Prop} {BX : String → SX → State → Prop} {AX : Nat → Prop} (hr : vx_Run p l e R s m args below meth c H locs cells slots mc ms (F0 m pc ls st0) rest (va_Qf post B A1 a) (vx_X px BX AX) free) (hS : va_S A0 H0 H locs) (hA : ∀ q, q < H.size → A1 q → A0 q) (hf : ∀ q, free q → A0 q) (hAX : ∀ q, q < H.size → AX q → A0 q)
    (kx : ∀ (E : String) (ce : Cell) (q9 : Addr) (u : SX) (t : State) (H1 : Heap) (locs1 : List Loc), t.heap = H1 → s.vm.Alike t.vm → px u → BX E u t → H.size ≤ H1.size → (∀ q : Nat, q < H.size → ¬ AX q → H1[q]? = H[q]?) → va_S A0 H0 H1 locs1 → H1[q9]? = some ce → ce.vm = .none → s.vm.findClass E = some ce.cls → vx_W p l e R s m args below meth c H1 locs1 (cells + mc) (slots + ms) Q (F0 m pc ls rest) q9)
    (kk : ∀ (r : UInt32) (u : S) (t : State) (H1 : Heap) (locs1 : List Loc), t.heap = H1 → s.vm.Alike t.vm → post r u → B u t → H.size ≤ H1.size → (∀ q : Nat, q < H.size → ¬ A1 q → H1[q]? = H[q]?) → va_S A0 H0 H1 locs1 → W p l e R s m args below meth c H1 locs1 (cells + mc) (slots + ms) Q (F0 m (pc + 3) ls (.float r :: rest))) : W p l e R s m args below meth c H locs cells slots Q (F0 m pc ls st0) := by
  intro T hT X
  rcases hr T hT X with ⟨v, st₀, t, T', L, h0, X', hL, e1, e2, ⟨⟨r, u, hv, hp, hb⟩, hF⟩, st⟩ | ⟨q, st₀, t, T', L, E, ce, h0, X', hL, e1, e2, ⟨u, hp, hb, hF⟩, hce, hcv, hcl, st⟩
  · cases hv
    obtain ⟨k1, k2, k3⟩ := vx_keep h0 e1 hS hA hf hL hF
    obtain ⟨t2, a1, b1⟩ := kk r u t T'.heap (locs ++ L) e1.symm (by rw [← e2]; exact X'.warmed.alike) hp hb k1 k2 k3 T' rfl X'
    exact ⟨t2, st t2 a1, b1⟩
  · obtain ⟨k1, k2, k3⟩ := vx_keep h0 e1 hS hAX hf hL hF
    obtain ⟨t2, a1, b1⟩ := kx E ce q u t T'.heap (locs ++ L) e1.symm (by rw [← e2]; exact X'.warmed.alike) hp hb k1 k2 k3 (by rw [e1]; exact hce) hcv hcl T' rfl X'
    exact ⟨t2, st.trans a1, b1⟩
theorem vx_calld {S SX : Type} {post : UInt64 → S → Prop} {px : SX → Prop} {B : S → State → Prop} {BX : String → SX → State → Prop} {AX : Nat → Prop} (hr : vx_Run p l e R s m args below meth c H locs cells slots mc ms (F0 m pc ls st0) rest (va_Qd post B A1 a) (vx_X px BX AX) free) (hS : va_S A0 H0 H locs) (hA : ∀ q, q < H.size → A1 q → A0 q) (hf : ∀ q, free q → A0 q) (hAX : ∀ q, q < H.size → AX q → A0 q)
    (kx : ∀ (E : String) (ce : Cell) (q9 : Addr) (u : SX) (t : State) (H1 : Heap) (locs1 : List Loc), t.heap = H1 → s.vm.Alike t.vm → px u → BX E u t → H.size ≤ H1.size → (∀ q : Nat, q < H.size → ¬ AX q → H1[q]? = H[q]?) → va_S A0 H0 H1 locs1 → H1[q9]? = some ce → ce.vm = .none → s.vm.findClass E = some ce.cls → vx_W p l e R s m args below meth c H1 locs1 (cells + mc) (slots + ms) Q (F0 m pc ls rest) q9)
    (kk : ∀ (r : UInt64) (u : S) (t : State) (H1 : Heap) (locs1 : List Loc), t.heap = H1 → s.vm.Alike t.vm → post r u → B u t → H.size ≤ H1.size → (∀ q : Nat, q < H.size → ¬ A1 q → H1[q]? = H[q]?) → va_S A0 H0 H1 locs1 → W p l e R s m args below meth c H1 locs1 (cells + mc) (slots + ms) Q (F0 m (pc + 3) ls (.double r :: rest))) : W p l e R s m args below meth c H locs cells slots Q (F0 m pc ls st0) := by
  intro T hT X
  rcases hr T hT X with ⟨v, st₀, t, T', L, h0, X', hL, e1, e2, ⟨⟨r, u, hv, hp, hb⟩, hF⟩, st⟩ | ⟨q, st₀, t, T', L, E, ce, h0, X', hL, e1, e2, ⟨u, hp, hb, hF⟩, hce, hcv, hcl, st⟩
  · cases hv
    obtain ⟨k1, k2, k3⟩ := vx_keep h0 e1 hS hA hf hL hF
    obtain ⟨t2, a1, b1⟩ := kk r u t T'.heap (locs ++ L) e1.symm (by rw [← e2]; exact X'.warmed.alike) hp hb k1 k2 k3 T' rfl X'
    exact ⟨t2, st t2 a1, b1⟩
  · obtain ⟨k1, k2, k3⟩ := vx_keep h0 e1 hS hAX hf hL hF
    obtain ⟨t2, a1, b1⟩ := kx E ce q u t T'.heap (locs ++ L) e1.symm (by rw [← e2]; exact X'.warmed.alike) hp hb k1 k2 k3 (by rw [e1]; exact hce) hcv hcl T' rfl X'
    exact ⟨t2, st.trans a1, b1⟩
theorem vx_callv {S SX : Type} {post : S → Prop} {px : SX → Prop} {B : S → State → Prop} {BX : String → SX → State → Prop} {AX : Nat → Prop} (hr : vx_Run p l e R s m args below meth c H locs cells slots mc ms (F0 m pc ls st0) rest (va_Qv post B A1 a) (vx_X px BX AX) free) (hS : va_S A0 H0 H locs) (hA : ∀ q, q < H.size → A1 q → A0 q) (hf : ∀ q, free q → A0 q) (hAX : ∀ q, q < H.size → AX q → A0 q)
    (kx : ∀ (E : String) (ce : Cell) (q9 : Addr) (u : SX) (t : State) (H1 : Heap) (locs1 : List Loc), t.heap = H1 → s.vm.Alike t.vm → px u → BX E u t → H.size ≤ H1.size → (∀ q : Nat, q < H.size → ¬ AX q → H1[q]? = H[q]?) → va_S A0 H0 H1 locs1 → H1[q9]? = some ce → ce.vm = .none → s.vm.findClass E = some ce.cls → vx_W p l e R s m args below meth c H1 locs1 (cells + mc) (slots + ms) Q (F0 m pc ls rest) q9)
    (kk : ∀ (u : S) (t : State) (H1 : Heap) (locs1 : List Loc), t.heap = H1 → s.vm.Alike t.vm → post u → B u t → H.size ≤ H1.size → (∀ q : Nat, q < H.size → ¬ A1 q → H1[q]? = H[q]?) → va_S A0 H0 H1 locs1 → W p l e R s m args below meth c H1 locs1 (cells + mc) (slots + ms) Q (F0 m (pc + 3) ls (rest))) : W p l e R s m args below meth c H locs cells slots Q (F0 m pc ls st0) := by
  intro T hT X
  rcases hr T hT X with ⟨v, st₀, t, T', L, h0, X', hL, e1, e2, ⟨⟨u, hv, hp, hb⟩, hF⟩, st⟩ | ⟨q, st₀, t, T', L, E, ce, h0, X', hL, e1, e2, ⟨u, hp, hb, hF⟩, hce, hcv, hcl, st⟩
  · cases hv
    obtain ⟨k1, k2, k3⟩ := vx_keep h0 e1 hS hA hf hL hF
    obtain ⟨t2, a1, b1⟩ := kk u t T'.heap (locs ++ L) e1.symm (by rw [← e2]; exact X'.warmed.alike) hp hb k1 k2 k3 T' rfl X'
    exact ⟨t2, st t2 a1, b1⟩
  · obtain ⟨k1, k2, k3⟩ := vx_keep h0 e1 hS hAX hf hL hF
    obtain ⟨t2, a1, b1⟩ := kx E ce q u t T'.heap (locs ++ L) e1.symm (by rw [← e2]; exact X'.warmed.alike) hp hb k1 k2 k3 (by rw [e1]; exact hce) hcv hcl T' rfl X'
    exact ⟨t2, st.trans a1, b1⟩
end Rows
section Ends
variable {p : Program} {l : Launch} {e : Env} {R : Room} {s : State} {m : MethodId} {args : Array Value} {below : List Frame} {meth : Method} {c : Code} {H : Heap} {locs : List Loc} {cells slots : Nat} {Q : State → Prop}
variable {mc ms : Nat} {free : Addr → Prop} {A0 A1 : Nat → Prop} {H0 : Heap} {a : Array Value} {ls : Array Slot} {st0 rest : List Value}
variable {Qc : Array Value → State → Outcome → State → Prop} {XC : String → State → State → Prop}
/-- what a body that may throw owes at its end -/
def vx_MQ (below : List Frame) (Qc : Array Value → State → Outcome → State → Prop) (XC : String → State → State → Prop) (a : Array Value) (s : State) (mc ms : Nat) (free : Addr → Prop) : State → Prop := fun t =>
  ∃ o, t.status = .running ∧ Ended t below o ∧ vx_Q Qc XC mc ms free a s o t
theorem vx_ret {g : JFrame} {mc ms : Nat} (k : W p l e R s m args below meth c H locs cells slots (MQ below Qc args s mc ms free) g) : W p l e R s m args below meth c H locs cells slots (vx_MQ below Qc XC args s mc ms free) g := by
  intro T hT X
  obtain ⟨t, a1, o, b1, b2, b3, b4⟩ := k T hT X
  exact ⟨t, a1, o, b1, b2, Or.inl ⟨b3, b4⟩⟩
/-- not caught here: it goes on to the caller -/
theorem vx_widen {g : JFrame} {q : Addr} {k n : Nat} (h1 : cells ≤ k) (h2 : slots ≤ n) (kk : vx_W p l e R s m args below meth c H locs k n Q g q) : vx_W p l e R s m args below meth c H locs cells slots Q g q := fun T hT X => kk T hT (stand_widen X h1 h2)
theorem vx_out {pc : Nat} {E : String} {ce : Cell} {q : Addr} {mc ms : Nat} (hout : ∀ x ∈ c.exceptionTable.toList, covers x pc = false) (hlocks : meth.locks = false) (hcell : H[q]? = some ce) (hv : ce.vm = .none) (hcl : s.vm.findClass E = some ce.cls)
    (hx : ∀ t : State, t.heap = H → s.vm.Alike t.vm → XC E s t) (hf : ∀ z ∈ locs, free z.base) (hc : cells ≤ mc) (hs : slots ≤ ms) :
    vx_W p l e R s m args below meth c H locs cells slots (vx_MQ below Qc XC args s mc ms free) (F0 m pc ls rest) q := by
  intro T hT X
  obtain ⟨st1, hrun, hend, hW, hsm⟩ := X.leaveThrown q (g := F0 m pc ls rest) rfl rfl rfl hout hlocks
  have hcell9 : (T.setFrames (.throwing q :: below)).heap[q]? = some ce := by
    show T.heap[q]? = some ce
    rw [hT]; exact hcell
  exact ⟨_, st1, .threw q, hrun, hend, Or.inr ⟨q, rfl, E, ce, locs, hx _ hT hW.alike, hcell9, hv, hcl, hW, hsm.mono hc hs, hf⟩⟩
theorem vx_frame {U : State} {k n : Nat} (h : s.sameButNew ({ U with vm := s.vm } : State) locs k n) : s.heap.size ≤ U.heap.size ∧ ∀ q : Nat, q < s.heap.size → (∀ z ∈ locs, z.base ≠ q) → U.heap[q]? = s.heap[q]? := by
  obtain ⟨-, h2, -, -, -, h6⟩ := h
  refine ⟨h2, fun q hq hz => ?_⟩
  obtain ⟨c9, e1, e2, e3, e4⟩ := h6 q _ (Array.getElem?_eq_getElem hq)
  have hs : c9.slots = (s.heap[q]).slots := Array.ext_getElem? fun i => e4 i fun hm => hz _ hm rfl
  have h9 : c9 = s.heap[q] := by
    rw [hs] at e2
    exact e2
  have e5 : U.heap[q]? = some c9 := e1
  rw [e5, h9, Array.getElem?_eq_getElem hq]
/-- the words of a throw but the four that speak of the heap -/
def vx_no (w : Cond) : Bool := decide (w ≠ .isRef (.static Bundle.tN "UNASSIGNED_STACK" Bundle.steD)) && decide (w ≠ .isRef (.static Bundle.tN "SUPPRESSED_SENTINEL" Bundle.listD)) && decide (w ≠ .laysStatic Bundle.tN "UNASSIGNED_STACK" Bundle.steD) && decide (w ≠ .laysStatic Bundle.tN "SUPPRESSED_SENTINEL" Bundle.listD)
def vx_at0 (own : String) (ic : Nat) (X : String) (names : List String) : List Cond := (Bundle.ownAtoms0 own ic X names).filter vx_no
def vx_atS (own : String) (ic : Nat) (X : String) (names : List String) : List Cond := (Bundle.ownAtoms own ic X names).filter vx_no
/-- a word that the tables alone decide, or a good one -/
def vx_ot (w : Cond) : Bool := w.onTables || goodWord w
theorem vx_ot_at {args a' : Array Value} {s U : State} {w : Cond} (hW : s.WarmedH U.vm) (hvm : s.vm = U.vm) (hg : vx_ot w = true) (h : w.before args s = true) : w.before a' U = true := by
  simp only [vx_ot, Bool.or_eq_true] at hg
  rcases hg with hg | hg
  · exact va_tabs hg hvm h
  · exact word_at hW (good_of_word hg) h
/-- a list's words: the good ones out of the method's own list, the others by premises of their own -/
theorem vx_hat {args : Array Value} {s : State} {L B : List Cond} (h1 : ∀ w ∈ L.filter goodWord, w.before args s = true) (h2 : ∀ w ∈ L.filter (fun w => !goodWord w), w ∈ B) (h3 : ∀ w ∈ B, w.before args s = true) : ∀ w ∈ L, w.before args s = true := by
  intro w hw
  by_cases g : goodWord w = true
  · exact h1 w (List.mem_filter.mpr ⟨hw, g⟩)
  · refine h3 w (h2 w (List.mem_filter.mpr ⟨hw, ?_⟩))
    show (!goodWord w) = true
    cases hgw : goodWord w
    · rfl
    · exact absurd hgw g
theorem vx_c {args : Array Value} {s : State} {w : Cond} {B : List Cond} (h : w.before args s = true) (t : ∀ w ∈ B, w.before args s = true) : ∀ w' ∈ w :: B, w'.before args s = true := fun w' h' => (List.mem_cons.mp h').elim (fun e => by rw [e]; exact h) (t w')
theorem vx_n {args : Array Value} {s : State} : ∀ w ∈ ([] : List Cond), w.before args s = true := fun _ h => nomatch h
theorem vx_own {args : Array Value} {s : State} {L : List Cond} (h1 : ∀ w ∈ L.filter vx_no, w.before args s = true)
    (hU : (Cond.isRef (.static Bundle.tN "UNASSIGNED_STACK" Bundle.steD)).before args s = true) (hN : (Cond.isRef (.static Bundle.tN "SUPPRESSED_SENTINEL" Bundle.listD)).before args s = true)
    (lU : (Cond.laysStatic Bundle.tN "UNASSIGNED_STACK" Bundle.steD).before args s = true) (lN : (Cond.laysStatic Bundle.tN "SUPPRESSED_SENTINEL" Bundle.listD).before args s = true) : ∀ w ∈ L, w.before args s = true := by
  intro w hw
  by_cases e1 : w = .isRef (.static Bundle.tN "UNASSIGNED_STACK" Bundle.steD)
  · rw [e1]; exact hU
  · by_cases e2 : w = .isRef (.static Bundle.tN "SUPPRESSED_SENTINEL" Bundle.listD)
    · rw [e2]; exact hN
    · by_cases e3 : w = .laysStatic Bundle.tN "UNASSIGNED_STACK" Bundle.steD
      · rw [e3]; exact lU
      · by_cases e4 : w = .laysStatic Bundle.tN "SUPPRESSED_SENTINEL" Bundle.listD
        · rw [e4]; exact lN
        · exact h1 w (List.mem_filter.mpr ⟨hw, by unfold vx_no; rw [decide_eq_true e1, decide_eq_true e2, decide_eq_true e3, decide_eq_true e4]; rfl⟩)
/-- where a static field lies, its class's statics cell in H -/
def vx_L (C n d : String) (A : Nat → Prop) (U : State) (H : Heap) : Prop := ∃ (c : ClassId) (k : Class) (i : Nat) (f : Field) (a : Nat) (cell : Cell), U.vm.findClass C = some c ∧ U.fieldFound? C n d = some (c, k, i, f) ∧ f.isStatic = true ∧ k.statics = some a ∧ H[a]? = some cell ∧ cell.vm.isStatics = true ∧ cell.cls = c ∧ f.slot < cell.slots.size ∧ k.staticTypes[f.slot]? = some f.type ∧ ¬ A a
theorem vx_L.moved {C n d : String} {A : Nat → Prop} {u U : State} {H : Heap} (hvm : u.vm.Alike U.vm) (h : vx_L C n d A u H) : vx_L C n d A U H := by
  obtain ⟨c, k, i, f, a, cell, h1, h2, h3, h4, h5, h6, h7, h8, h9, h10⟩ := h
  obtain ⟨k', hi', he⟩ := State.fieldFound?_setVm hvm h2
  exact ⟨c, k', i, f, a, cell, by rw [hvm.findClass]; exact h1, hi', h3, by rw [he]; exact h4, h5, h6, h7, h8, by rw [he]; exact h9, h10⟩
theorem vx_L.kept {C n d : String} {A : Nat → Prop} {U : State} {H H1 : Heap} (h : vx_L C n d A U H) (hq : ∀ a : Nat, a < H.size → ¬ A a → H1[a]? = H[a]?) : vx_L C n d A U H1 := by
  obtain ⟨c, k, i, f, a, cell, h1, h2, h3, h4, h5, h6, h7, h8, h9, h10⟩ := h
  exact ⟨c, k, i, f, a, cell, h1, h2, h3, h4, by rw [hq a (Array.getElem?_eq_some_iff.mp h5).1 h10]; exact h5, h6, h7, h8, h9, h10⟩
theorem vx_L.narrow {C n d : String} {A B : Nat → Prop} {U : State} {H : Heap} (h : vx_L C n d A U H) (hAB : ∀ q, B q → A q) : vx_L C n d B U H := by
  obtain ⟨c, k, i, f, a, cell, h1, h2, h3, h4, h5, h6, h7, h8, h9, h10⟩ := h
  exact ⟨c, k, i, f, a, cell, h1, h2, h3, h4, h5, h6, h7, h8, h9, fun z => h10 (hAB _ z)⟩
theorem vx_L.word {C n d : String} {A : Nat → Prop} {s : State} {args : Array Value} (h : vx_L C n d A s s.heap) : (Cond.laysStatic C n d).before args s = true := by
  obtain ⟨c, k, i, f, a, cell, h1, h2, h3, h4, h5, h6, h7, h8, h9, -⟩ := h
  show (Cond.laysStatic C n d).holds args s none s [] = true
  exact Cond.laysStatic_of h1 h2 h3 h4 h5 h6 h7 h8 h9
/-- .. and what it holds: null or some reference -/
def vx_Zq (C n d : String) (A : Nat → Prop) (U : State) (H : Heap) : Prop := va_Zq C n d A U H ∧ vx_L C n d A U H
theorem vx_Zq.moved {C n d : String} {A : Nat → Prop} {u U : State} {H : Heap} (hvm : u.vm.Alike U.vm) (h : vx_Zq C n d A u H) : vx_Zq C n d A U H := ⟨va_Zq.moved hvm h.1, vx_L.moved hvm h.2⟩
theorem vx_Zq.kept {C n d : String} {A : Nat → Prop} {U : State} {H H1 : Heap} (h : vx_Zq C n d A U H) (hq : ∀ a : Nat, a < H.size → ¬ A a → H1[a]? = H[a]?) : vx_Zq C n d A U H1 := ⟨va_Zq.kept h.1 hq, vx_L.kept h.2 hq⟩
theorem vx_Zq.narrow {C n d : String} {A B : Nat → Prop} {U : State} {H : Heap} (h : vx_Zq C n d A U H) (hAB : ∀ q, B q → A q) : vx_Zq C n d B U H := ⟨va_Zq.narrow h.1 hAB, vx_L.narrow h.2 hAB⟩
theorem vx_Zqof {args : Array Value} {s : State} {C n d : String} {A : Nat → Prop} (hl : (Cond.laysStatic C n d).before args s = true) (hini : (Cond.initialized C).before args s = true) (h : (Cond.isRef (.static C n d)).before args s = true) (hA : ∀ a : Nat, a < s.heap.size → ¬ A a) : vx_Zq C n d A s s.heap := by
  refine ⟨va_Zqof hl hini h hA, ?_⟩
  obtain ⟨c, k, i, f, a, cell, h1, h2, h3, h4, h5, h6, h7, h8, h9⟩ := Cond.laysStatic_spec hl
  exact ⟨c, k, i, f, a, cell, h1, h2, h3, h4, h5, h6, h7, h8, h9, hA a (Array.getElem?_eq_some_iff.mp h5).1⟩
theorem vx_isRef {C n d : String} {v : Value} {A : Nat → Prop} {s : State} {args : Array Value} (h : va_Z C n d v A s s.heap) (hv : v.isRef = true) : (Cond.isRef (.static C n d)).before args s = true := by
  obtain ⟨cf, kf, fi, f, a, cell, h1, h2, h3, h4, h5, h6, h7, -⟩ := h
  have he : (Term.static C n d).eval args s none [] s = some v := by
    simp [Term.eval, State.fieldNamed?, h1, h2, h4, h5, h6, h7]
  simp only [Cond.before, Cond.holds, Cond.value, he]
  cases v <;> simp_all [Value.isRef]
theorem vx_isRefq {C n d : String} {A : Nat → Prop} {s : State} {args : Array Value} (h : va_Zq C n d A s s.heap) : (Cond.isRef (.static C n d)).before args s = true := by
  rcases h with h | ⟨t, h⟩
  · exact vx_isRef h rfl
  · exact vx_isRef h rfl
/-- the same frame, seen from here: as if the method were called anew in this heap -/
theorem vx_rebase {T : State} (X : Stand p l e R s m args below meth c T locs cells slots) {R' : Room} (hf : R'.frames ≤ R.frames) (hl : R'.locals ≤ R.locals) (hc : cells + R'.cells ≤ R.cells) (hs : slots + R'.slots ≤ R.slots) :
    Stand p l e R' ((T.setVm s.vm).setFrames (.invoking m args :: below)) m args below meth c T [] 0 0 := by
  have htop : (T.setVm s.vm).topJava?.isSome := X.here.top
  have hF : ((T.setVm s.vm).setFrames (.invoking m args :: below)).frames = .invoking m args :: below := State.frames_setFrames _ (State.cur_lt_of_top htop)
  obtain ⟨g₀, hg0⟩ := Option.isSome_iff_exists.mp htop
  obtain ⟨r, hr⟩ := State.topJava?_eq_some.mp hg0
  have hl9 : e.platform.stackLimits (T.setVm s.vm).me = e.platform.stackLimits s.me := X.limits
  have hb9 : (T.setVm s.vm).me.stackBytes = s.me.stackBytes := X.bytes
  refine ⟨X.admits, X.cas, X.clock, hF, ?_, X.hears, X.method, X.code, X.here, X.tail, X.warmed, ?_, ?_, ?_⟩
  · have h := X.room
    have hU : ((T.setVm s.vm).setFrames (.invoking m args :: below)).localsInUse = s.localsInUse := by
      rw [State.localsInUse_invoking hF (meth := meth) (c := c) X.method X.code, State.localsInUse_invoking X.frames X.method X.code]
    simp only [State.hasRoom, Bool.and_eq_true, decide_eq_true_eq] at h ⊢
    obtain ⟨⟨⟨⟨h1, h2, h3, h4, h5, h6⟩, h7⟩, h8⟩, h9⟩ := h
    rw [X.frames, List.length_cons] at h2 h3
    have q1 := X.heapSize
    have q2 := X.used
    simp only [hF, hU, List.length_cons, State.stackLimits_setFrames, State.stackBytes_setFrames, hl9, hb9]
    refine ⟨⟨⟨⟨by omega, by omega, by omega, by omega, by omega, h6⟩, ?_⟩, ?_⟩, X.book⟩
    · show T.heap.size + R'.cells ≤ e.platform.maxCells
      omega
    · show T.slotsUsed + R'.slots ≤ e.platform.maxSlots
      omega
  · rw [State.stackLimits_setFrames]; rfl
  · rw [State.stackBytes_setFrames]; rfl
  · refine ⟨?_, Nat.le_refl _, Nat.le_refl _, ?_, ?_, fun a c9 h9 => ⟨c9, h9, rfl, rfl, fun _ _ => rfl⟩⟩
    · obtain ⟨t, ht, -⟩ := State.frames_cons hr
      show T.setVm s.vm = { ((T.setVm s.vm).setFrames (.invoking m args :: below)).setFrames (T.setVm s.vm).frames with heap := T.heap, slotsUsed := T.slotsUsed }
      rw [State.setFrames_setFrames, State.setFrames_self ht]
      rfl
    · show T.slotsUsed = T.slotsUsed + ((T.heap.toList.drop T.heap.size).map (·.slots.size)).sum
      rw [List.drop_eq_nil_of_le (Nat.le_of_eq Array.length_toList)]
      rfl
    · show ((T.heap.toList.drop T.heap.size).map (·.slots.size)).sum ≤ 0
      rw [List.drop_eq_nil_of_le (Nat.le_of_eq Array.length_toList)]
      exact Nat.le_refl _
/-- 'throw new E()': new; dup; invokespecial; athrow -/
theorem vx_throw0 {cc : ByteArray} {pc : Nat} (hexec : p.tables.exec = Jvm.exec) (hb : c.code = cc) (hl : l.stackTraces = false) {own cls : String} {names : List String} {ik ic mc ms : Nat} {A : Nat → Prop}
    (hown : s.vm.findClass own = some m.cls) (hcls : Bundle.fit cls = true) (hnames : ∀ n ∈ names, Bundle.fit n = true)
    (hk : (Cond.classLink own ik cls).before args s = true) (hini : (Cond.initialized cls).before args s = true) (hat : ∀ w ∈ vx_at0 own ic cls names, w.before args s = true)
    (hgood : ∀ w ∈ Cond.classLink own ik cls :: Cond.initialized cls :: vx_at0 own ic cls names, vx_ot w = true)
    (hU : vx_Zq Bundle.tN "UNASSIGNED_STACK" Bundle.steD A s s.heap) (hN : vx_Zq Bundle.tN "SUPPRESSED_SENTINEL" Bundle.listD A s s.heap) (hS : va_S A s.heap H locs) (hsize : ls.size = c.maxLocals)
    (d0 : decode cc pc = .ok (.new ik, 3)) (d3 : decode cc (pc + 3) = .ok (.dup, 1)) (d4 : decode cc (pc + 4) = .ok (.invokespecial ic, 3)) (d7 : decode cc (pc + 7) = .ok (.athrow, 1))
    (hout : ∀ x ∈ c.exceptionTable.toList, covers x (pc + 7) = false)
    (hRframes : names.length + 3 < R.frames) (hRlocals : (rest.map fun v => v.category).sum + (13 * (names.length + 1) + 42) ≤ R.locals) (hRcells : cells + 1 ≤ R.cells) (hRslots : slots + 6 ≤ R.slots) (hlocks : meth.locks = false)
    (hx : ∀ t : State, s.vm.Alike t.vm → H.size ≤ t.heap.size → (∀ q : Nat, q < H.size → t.heap[q]? = H[q]?) → XC cls s t)
    (hf : ∀ z ∈ locs, free z.base) (hc : cells + 1 ≤ mc) (hs : slots + 6 ≤ ms) :
    W p l e R s m args below meth c H locs cells slots (vx_MQ below Qc XC args s mc ms free) (F0 m pc ls rest) := by
  intro T hT X
  have htr : e.platform.stackTraces = false := (show e.platform.stackTraces = l.stackTraces by rw [X.admits.platform]).trans hl
  have Y := vx_rebase X (R' := { frames := R.frames, locals := R.locals, cells := 1, slots := 6 }) (Nat.le_refl _) (Nat.le_refl _) hRcells hRslots
  obtain ⟨s', hA⟩ : ∃ z, z = (T.setVm s.vm).setFrames (.invoking m args :: below) := ⟨_, rfl⟩
  rw [← hA] at Y
  have hvm : s'.vm = s.vm := by rw [hA]; rfl
  have hhp : s'.heap = H := by rw [hA]; exact hT
  have hW0 : s.WarmedH s'.vm := by rw [hvm]; exact State.WarmedH.refl s
  have hat' : ∀ w ∈ vx_at0 own ic cls names, w.before args s' = true := fun w hw => vx_ot_at hW0 hvm.symm (hgood w (List.mem_cons_of_mem _ (List.mem_cons_of_mem _ hw))) (hat w hw)
  have hk' : (Cond.classLink own ik cls).before args s' = true := vx_ot_at hW0 hvm.symm (hgood _ List.mem_cons_self) hk
  have hini' : (Cond.initialized cls).before args s' = true := vx_ot_at hW0 hvm.symm (hgood _ (List.mem_cons_of_mem _ List.mem_cons_self)) hini
  have hU' : vx_Zq Bundle.tN "UNASSIGNED_STACK" Bundle.steD A s' s'.heap := by rw [hhp]; exact vx_Zq.moved hW0.alike (hU.kept hS.2.1)
  have hN' : vx_Zq Bundle.tN "SUPPRESSED_SENTINEL" Bundle.listD A s' s'.heap := by rw [hhp]; exact vx_Zq.moved hW0.alike (hN.kept hS.2.1)
  have h : ∀ w ∈ Bundle.ownAtoms0 own ic cls names, w.before args s' = true := vx_own hat' (vx_isRefq hU'.1) (vx_isRefq hN'.1) hU'.2.word hN'.2.word
  have hown' : s'.vm.findClass own = some m.cls := by rw [hvm]; exact hown
  have hins : (Cond.instantiable cls 6).before args s' = true := h _ (by simp [Bundle.ownAtoms0])
  obtain ⟨vm₁, cX, kX, hfX, hkX, -, -, X₁, st1⟩ := Y.newCold hexec (own := own) (C := cls) (index := ik) (n := 6) hown' hk' hins hini'
    (g := F0 m pc ls rest) rfl (by rw [hb]; exact d0) (Nat.le_refl _) (Nat.le_refl _)
  generalize hT1 : (T.setVm vm₁).pushCell { cls := cX, slots := kX.instanceTypes.map defaultValue, vm := .none } = T1 at X₁ st1
  have hcat : (Value.ref T.heap.size).category = 1 := rfl
  have hcellA : T1.heap[T.heap.size]? = some (freshCell cX kX) := by rw [← hT1]; exact State.heap_pushCell_size _ _
  have d3' : decode c.code (pc + 3) = .ok (.dup, 1) := by rw [hb]; exact d3
  obtain ⟨U, hsteps, hrun, hend, hW, hsame, ce, hce, hO⟩ := X₁.ctorThrow0 hexec htr (own := own) (cls := cls) (names := names) (ic := ic) hown' hcls hnames h (fun x hx => nomatch hx) hfX hkX hcellA (by rw [hhp, hT]; exact Nat.le_refl _)
    (g := { method := m, pc := pc + 4, locals := ls, stack := .ref T.heap.size :: .ref T.heap.size :: rest, locked := none }) rfl hsize rfl rfl (rest := rest) rfl
    (by rw [hb]; exact d4) (by rw [hb]; exact d7) hout hRframes (by simp only [List.map_cons, List.sum_cons, hcat]; omega) hlocks
  obtain ⟨f1, f2⟩ := vx_frame hsame
  rw [hhp] at f1 f2
  have hWs : s.WarmedH U.vm := State.WarmedH.trans hW0 hW
  have hcl : s.vm.findClass cls = some ce.cls := by
    have h9 := hO.cls
    rw [hvm] at h9
    exact h9
  have hall : s.sameButNew ({ U with vm := s.vm } : State) locs mc ms := by
    subst hA
    obtain ⟨e1, e2⟩ := hsame
    rw [State.setFrames_setFrames] at e1
    have h2 : (T.setVm s.vm).sameButNew ({ U with vm := s.vm } : State) [] (0 + 1) (0 + 6) := ⟨e1, e2⟩
    have h3 := X.same.trans h2
    rw [List.append_nil] at h3
    exact h3.mono hc hs
  refine ⟨U, ?_, .threw T.heap.size, hrun, hend, Or.inr ⟨T.heap.size, rfl, cls, ce, locs, hx U hWs.alike f1 (fun q hq => f2 q hq (fun z hz => nomatch hz)), hce, hO.vm, hcl, hWs, hall, hf⟩⟩
  refine st1 _ ?_
  show Steps p.tables e below (T1.setTop { method := m, pc := pc + 3, locals := ls, stack := .ref T.heap.size :: rest, locked := none }) _
  jvm_step X₁.here [X₁.here.top, hexec, d3', Value.category]
  exact hsteps
/-- 'throw new E("text")': new; dup; ldc; invokespecial; athrow -/
theorem vx_throwS {cc : ByteArray} {pc : Nat} (hexec : p.tables.exec = Jvm.exec) (hb : c.code = cc) (hl : l.stackTraces = false) {own cls text : String} {names : List String} {ik is ic mc ms sa : Nat} {A : Nat → Prop}
    (hown : s.vm.findClass own = some m.cls) (hcls : Bundle.fit cls = true) (hnames : ∀ n ∈ names, Bundle.fit n = true)
    (hk : (Cond.classLink own ik cls).before args s = true) (hini : (Cond.initialized cls).before args s = true) (hstr : vk_R own is text sa s) (hat : ∀ w ∈ vx_atS own ic cls names, w.before args s = true)
    (hgood : ∀ w ∈ Cond.classLink own ik cls :: Cond.initialized cls :: vx_atS own ic cls names, vx_ot w = true)
    (hU : vx_Zq Bundle.tN "UNASSIGNED_STACK" Bundle.steD A s s.heap) (hN : vx_Zq Bundle.tN "SUPPRESSED_SENTINEL" Bundle.listD A s s.heap) (hS : va_S A s.heap H locs) (hsize : ls.size = c.maxLocals)
    (d0 : decode cc pc = .ok (.new ik, 3)) (d3 : decode cc (pc + 3) = .ok (.dup, 1)) (d4 : decode cc (pc + 4) = .ok (.ldc is, 2)) (d6 : decode cc (pc + 6) = .ok (.invokespecial ic, 3)) (d9 : decode cc (pc + 9) = .ok (.athrow, 1))
    (hout : ∀ x ∈ c.exceptionTable.toList, covers x (pc + 9) = false)
    (hRframes : names.length + 3 < R.frames) (hRlocals : (rest.map fun v => v.category).sum + (13 * (names.length + 1) + 43) ≤ R.locals) (hRcells : cells + 1 ≤ R.cells) (hRslots : slots + 6 ≤ R.slots) (hlocks : meth.locks = false)
    (hx : ∀ t : State, s.vm.Alike t.vm → H.size ≤ t.heap.size → (∀ q : Nat, q < H.size → t.heap[q]? = H[q]?) → XC cls s t)
    (hf : ∀ z ∈ locs, free z.base) (hc : cells + 1 ≤ mc) (hs : slots + 6 ≤ ms) :
    W p l e R s m args below meth c H locs cells slots (vx_MQ below Qc XC args s mc ms free) (F0 m pc ls rest) := by
  intro T hT X
  have htr : e.platform.stackTraces = false := (show e.platform.stackTraces = l.stackTraces by rw [X.admits.platform]).trans hl
  have Y := vx_rebase X (R' := { frames := R.frames, locals := R.locals, cells := 1, slots := 6 }) (Nat.le_refl _) (Nat.le_refl _) hRcells hRslots
  obtain ⟨s', hA⟩ : ∃ z, z = (T.setVm s.vm).setFrames (.invoking m args :: below) := ⟨_, rfl⟩
  rw [← hA] at Y
  have hvm : s'.vm = s.vm := by rw [hA]; rfl
  have hhp : s'.heap = H := by rw [hA]; exact hT
  have hW0 : s.WarmedH s'.vm := by rw [hvm]; exact State.WarmedH.refl s
  have hat' : ∀ w ∈ vx_atS own ic cls names, w.before args s' = true := fun w hw => vx_ot_at hW0 hvm.symm (hgood w (List.mem_cons_of_mem _ (List.mem_cons_of_mem _ hw))) (hat w hw)
  have hk' : (Cond.classLink own ik cls).before args s' = true := vx_ot_at hW0 hvm.symm (hgood _ List.mem_cons_self) hk
  have hini' : (Cond.initialized cls).before args s' = true := vx_ot_at hW0 hvm.symm (hgood _ (List.mem_cons_of_mem _ List.mem_cons_self)) hini
  have hU' : vx_Zq Bundle.tN "UNASSIGNED_STACK" Bundle.steD A s' s'.heap := by rw [hhp]; exact vx_Zq.moved hW0.alike (hU.kept hS.2.1)
  have hN' : vx_Zq Bundle.tN "SUPPRESSED_SENTINEL" Bundle.listD A s' s'.heap := by rw [hhp]; exact vx_Zq.moved hW0.alike (hN.kept hS.2.1)
  have h : ∀ w ∈ Bundle.ownAtoms own ic cls names, w.before args s' = true := vx_own hat' (vx_isRefq hU'.1) (vx_isRefq hN'.1) hU'.2.word hN'.2.word
  have hown' : s'.vm.findClass own = some m.cls := by rw [hvm]; exact hown
  have hins : (Cond.instantiable cls 6).before args s' = true := h _ (by simp [Bundle.ownAtoms])
  obtain ⟨vm₁, cX, kX, hfX, hkX, -, -, X₁, st1⟩ := Y.newCold hexec (own := own) (C := cls) (index := ik) (n := 6) hown' hk' hins hini'
    (g := F0 m pc ls rest) rfl (by rw [hb]; exact d0) (Nat.le_refl _) (Nat.le_refl _)
  generalize hT1 : (T.setVm vm₁).pushCell { cls := cX, slots := kX.instanceTypes.map defaultValue, vm := .none } = T1 at X₁ st1
  have hcat : (Value.ref T.heap.size).category = 1 := rfl
  have hcellA : T1.heap[T.heap.size]? = some (freshCell cX kX) := by rw [← hT1]; exact State.heap_pushCell_size _ _
  have d3' : decode c.code (pc + 3) = .ok (.dup, 1) := by rw [hb]; exact d3
  have d4' : decode c.code (pc + 4) = .ok (.ldc is, 2) := by rw [hb]; exact d4
  have hstr' : vk_R own is text sa s' := vk_R.warm hW0 hstr
  obtain ⟨U, hsteps, hrun, hend, hW, hsame, ce, hce, hO⟩ := X₁.ctorThrowS hexec htr (own := own) (cls := cls) (names := names) (ic := ic) hown' hcls hnames h (fun x hx => nomatch hx) hfX hkX hcellA (by rw [hhp, hT]; exact Nat.le_refl _) (msg := .ref sa) rfl
    (g := { method := m, pc := pc + 6, locals := ls, stack := .ref sa :: .ref T.heap.size :: .ref T.heap.size :: rest, locked := none }) rfl hsize rfl rfl (rest := rest) rfl
    (by rw [hb]; exact d6) (by rw [hb]; exact d9) hout hRframes (by simp only [List.map_cons, List.sum_cons, hcat]; omega) hlocks
  obtain ⟨f1, f2⟩ := vx_frame hsame
  rw [hhp] at f1 f2
  have hWs : s.WarmedH U.vm := State.WarmedH.trans hW0 hW
  have hcl : s.vm.findClass cls = some ce.cls := by
    have h9 := hO.cls
    rw [hvm] at h9
    exact h9
  have hall : s.sameButNew ({ U with vm := s.vm } : State) locs mc ms := by
    subst hA
    obtain ⟨e1, e2⟩ := hsame
    rw [State.setFrames_setFrames] at e1
    have h2 : (T.setVm s.vm).sameButNew ({ U with vm := s.vm } : State) [] (0 + 1) (0 + 6) := ⟨e1, e2⟩
    have h3 := X.same.trans h2
    rw [List.append_nil] at h3
    exact h3.mono hc hs
  refine ⟨U, ?_, .threw T.heap.size, hrun, hend, Or.inr ⟨T.heap.size, rfl, cls, ce, locs, hx U hWs.alike f1 (fun q hq => f2 q hq (fun z hz => nomatch hz)), hce, hO.vm, hcl, hWs, hall, hf⟩⟩
  refine st1 _ ?_
  show Steps p.tables e below (T1.setTop { method := m, pc := pc + 3, locals := ls, stack := .ref T.heap.size :: rest, locked := none }) _
  jvm_step X₁.here [X₁.here.top, hexec, d3', Value.category]
  exact X₁.ldcString hexec (own := own) (text := text) (index := is) (a := sa) hown' hstr'.1 hstr'.2
    (g := { method := m, pc := pc + 4, locals := ls, stack := .ref T.heap.size :: .ref T.heap.size :: rest, locked := none }) rfl d4' _ hsteps
/-- 'throw new E("text")', the text by a wide index -/
theorem vx_throwSW {cc : ByteArray} {pc : Nat} (hexec : p.tables.exec = Jvm.exec) (hb : c.code = cc) (hl : l.stackTraces = false) {own cls text : String} {names : List String} {ik is ic mc ms sa : Nat} {A : Nat → Prop}
    (hown : s.vm.findClass own = some m.cls) (hcls : Bundle.fit cls = true) (hnames : ∀ n ∈ names, Bundle.fit n = true)
    (hk : (Cond.classLink own ik cls).before args s = true) (hini : (Cond.initialized cls).before args s = true) (hstr : vk_R own is text sa s) (hat : ∀ w ∈ vx_atS own ic cls names, w.before args s = true)
    (hgood : ∀ w ∈ Cond.classLink own ik cls :: Cond.initialized cls :: vx_atS own ic cls names, vx_ot w = true)
    (hU : vx_Zq Bundle.tN "UNASSIGNED_STACK" Bundle.steD A s s.heap) (hN : vx_Zq Bundle.tN "SUPPRESSED_SENTINEL" Bundle.listD A s s.heap) (hS : va_S A s.heap H locs) (hsize : ls.size = c.maxLocals)
    (d0 : decode cc pc = .ok (.new ik, 3)) (d3 : decode cc (pc + 3) = .ok (.dup, 1)) (d4 : decode cc (pc + 4) = .ok (.ldc_w is, 3)) (d7 : decode cc (pc + 7) = .ok (.invokespecial ic, 3)) (d10 : decode cc (pc + 10) = .ok (.athrow, 1))
    (hout : ∀ x ∈ c.exceptionTable.toList, covers x (pc + 10) = false)
    (hRframes : names.length + 3 < R.frames) (hRlocals : (rest.map fun v => v.category).sum + (13 * (names.length + 1) + 43) ≤ R.locals) (hRcells : cells + 1 ≤ R.cells) (hRslots : slots + 6 ≤ R.slots) (hlocks : meth.locks = false)
    (hx : ∀ t : State, s.vm.Alike t.vm → H.size ≤ t.heap.size → (∀ q : Nat, q < H.size → t.heap[q]? = H[q]?) → XC cls s t)
    (hf : ∀ z ∈ locs, free z.base) (hc : cells + 1 ≤ mc) (hs : slots + 6 ≤ ms) :
    W p l e R s m args below meth c H locs cells slots (vx_MQ below Qc XC args s mc ms free) (F0 m pc ls rest) := by
  intro T hT X
  have htr : e.platform.stackTraces = false := (show e.platform.stackTraces = l.stackTraces by rw [X.admits.platform]).trans hl
  have Y := vx_rebase X (R' := { frames := R.frames, locals := R.locals, cells := 1, slots := 6 }) (Nat.le_refl _) (Nat.le_refl _) hRcells hRslots
  obtain ⟨s', hA⟩ : ∃ z, z = (T.setVm s.vm).setFrames (.invoking m args :: below) := ⟨_, rfl⟩
  rw [← hA] at Y
  have hvm : s'.vm = s.vm := by rw [hA]; rfl
  have hhp : s'.heap = H := by rw [hA]; exact hT
  have hW0 : s.WarmedH s'.vm := by rw [hvm]; exact State.WarmedH.refl s
  have hat' : ∀ w ∈ vx_atS own ic cls names, w.before args s' = true := fun w hw => vx_ot_at hW0 hvm.symm (hgood w (List.mem_cons_of_mem _ (List.mem_cons_of_mem _ hw))) (hat w hw)
  have hk' : (Cond.classLink own ik cls).before args s' = true := vx_ot_at hW0 hvm.symm (hgood _ List.mem_cons_self) hk
  have hini' : (Cond.initialized cls).before args s' = true := vx_ot_at hW0 hvm.symm (hgood _ (List.mem_cons_of_mem _ List.mem_cons_self)) hini
  have hU' : vx_Zq Bundle.tN "UNASSIGNED_STACK" Bundle.steD A s' s'.heap := by rw [hhp]; exact vx_Zq.moved hW0.alike (hU.kept hS.2.1)
  have hN' : vx_Zq Bundle.tN "SUPPRESSED_SENTINEL" Bundle.listD A s' s'.heap := by rw [hhp]; exact vx_Zq.moved hW0.alike (hN.kept hS.2.1)
  have h : ∀ w ∈ Bundle.ownAtoms own ic cls names, w.before args s' = true := vx_own hat' (vx_isRefq hU'.1) (vx_isRefq hN'.1) hU'.2.word hN'.2.word
  have hown' : s'.vm.findClass own = some m.cls := by rw [hvm]; exact hown
  have hins : (Cond.instantiable cls 6).before args s' = true := h _ (by simp [Bundle.ownAtoms])
  obtain ⟨vm₁, cX, kX, hfX, hkX, -, -, X₁, st1⟩ := Y.newCold hexec (own := own) (C := cls) (index := ik) (n := 6) hown' hk' hins hini'
    (g := F0 m pc ls rest) rfl (by rw [hb]; exact d0) (Nat.le_refl _) (Nat.le_refl _)
  generalize hT1 : (T.setVm vm₁).pushCell { cls := cX, slots := kX.instanceTypes.map defaultValue, vm := .none } = T1 at X₁ st1
  have hcat : (Value.ref T.heap.size).category = 1 := rfl
  have hcellA : T1.heap[T.heap.size]? = some (freshCell cX kX) := by rw [← hT1]; exact State.heap_pushCell_size _ _
  have d3' : decode c.code (pc + 3) = .ok (.dup, 1) := by rw [hb]; exact d3
  have d4' : decode c.code (pc + 4) = .ok (.ldc_w is, 3) := by rw [hb]; exact d4
  have hstr' : vk_R own is text sa s' := vk_R.warm hW0 hstr
  obtain ⟨U, hsteps, hrun, hend, hW, hsame, ce, hce, hO⟩ := X₁.ctorThrowS hexec htr (own := own) (cls := cls) (names := names) (ic := ic) hown' hcls hnames h (fun x hx => nomatch hx) hfX hkX hcellA (by rw [hhp, hT]; exact Nat.le_refl _) (msg := .ref sa) rfl
    (g := { method := m, pc := pc + 7, locals := ls, stack := .ref sa :: .ref T.heap.size :: .ref T.heap.size :: rest, locked := none }) rfl hsize rfl rfl (rest := rest) rfl
    (by rw [hb]; exact d7) (by rw [hb]; exact d10) hout hRframes (by simp only [List.map_cons, List.sum_cons, hcat]; omega) hlocks
  obtain ⟨f1, f2⟩ := vx_frame hsame
  rw [hhp] at f1 f2
  have hWs : s.WarmedH U.vm := State.WarmedH.trans hW0 hW
  have hcl : s.vm.findClass cls = some ce.cls := by
    have h9 := hO.cls
    rw [hvm] at h9
    exact h9
  have hall : s.sameButNew ({ U with vm := s.vm } : State) locs mc ms := by
    subst hA
    obtain ⟨e1, e2⟩ := hsame
    rw [State.setFrames_setFrames] at e1
    have h2 : (T.setVm s.vm).sameButNew ({ U with vm := s.vm } : State) [] (0 + 1) (0 + 6) := ⟨e1, e2⟩
    have h3 := X.same.trans h2
    rw [List.append_nil] at h3
    exact h3.mono hc hs
  refine ⟨U, ?_, .threw T.heap.size, hrun, hend, Or.inr ⟨T.heap.size, rfl, cls, ce, locs, hx U hWs.alike f1 (fun q hq => f2 q hq (fun z hz => nomatch hz)), hce, hO.vm, hcl, hWs, hall, hf⟩⟩
  refine st1 _ ?_
  show Steps p.tables e below (T1.setTop { method := m, pc := pc + 3, locals := ls, stack := .ref T.heap.size :: rest, locked := none }) _
  jvm_step X₁.here [X₁.here.top, hexec, d3', Value.category]
  exact X₁.ldcStringW hexec (own := own) (text := text) (index := is) (a := sa) hown' hstr'.1 hstr'.2
    (g := { method := m, pc := pc + 4, locals := ls, stack := .ref T.heap.size :: .ref T.heap.size :: rest, locked := none }) rfl d4' _ hsteps
end Ends
section Bodies
variable {l : Launch}
theorem vx_ofW {y : MethodName} {ws ws' : List Cond} {rm : Room} {Pc : Array Value → State → Prop} {Qc : Array Value → State → Outcome → State → Prop} {XC : String → State → State → Prop} {mc ms : Nat} {free : Addr → Prop} {cc : ByteArray} {maxL : Nat} {ret : Option FieldType}
    (hy : plainName y.cls = true) (hw : ws = Cond.code y cc maxL ret :: ws')
    (body : ∀ p e s m args below meth c s₁, BodyLoose p l y (headSpec ws rm) cc maxL ret e s m args below meth c s₁ → c.maxLocals = maxL → (∀ x ∈ c.exceptionTable.toList, False) → Pc args s →
      W p l e (headSpec ws rm).room s m args below meth c s.heap [] 0 0 (vx_MQ below Qc XC args s mc ms free) (entryFrame m args maxL)) : vx_Met l y ws rm Pc Qc XC mc ms free := by
  refine MetFree.of_bodyS (code := cc) (maxLocals := maxL) (ret := ret) hy ?_ ?_
  · intro args s m h hn
    obtain ⟨meth, c, h1, h2, h3, h4, h5, h6, -, -⟩ := Cond.code_spec hn (atoms_spec (ws := ws) h _ (by rw [hw]; exact List.mem_cons_self))
    exact ⟨meth, c, h1, h2, h3, h4, h5, h6⟩
  · intro p e s m args below meth c s₁ B hml hP _
    have hh0 : s₁.heap = s.heap := by rw [B.state]; rfl
    have ht : ∀ x ∈ c.exceptionTable.toList, False := by
      obtain ⟨meth9, c9, h1, h2, -, -, -, -, h7, -⟩ := Cond.code_spec B.named (atoms_spec (ws := ws) B.pre _ (by rw [hw]; exact List.mem_cons_self))
      cases Option.some.inj (h1.symm.trans B.method)
      cases Option.some.inj (h2.symm.trans (Stand.of_body B).code)
      intro x hx
      rw [Array.isEmpty_iff.mp h7] at hx
      cases hx
    obtain ⟨t, a1, o, b1, b2, b3⟩ := body p e s m args below meth c s₁ B hml ht hP s₁ hh0 (Stand.of_body B)
    exact ⟨t, o, a1, b1, b2, b3⟩
/-- the table of a body with handlers -/
theorem vx_table {p : Program} {x y : MethodName} {S : Spec} {cc bytes : ByteArray} {maxL maxL' : Nat} {ret ret' : Option FieldType} {e : Env} {s s₁ : State} {m : MethodId} {args : Array Value} {below : List Frame} {meth : Method} {c : Code} {hh : List (Nat × Nat × Nat × Nat)}
    (B : BodyLoose p l y S cc maxL ret e s m args below meth c s₁) (h : (Cond.codeWith y bytes maxL' ret' hh).before args s = true) : c.exceptionTable.toList = tableOf hh := by
  obtain ⟨m9, meth9, c9, hn9, h1, h2, -, -, h6, -⟩ := Cond.codeWith_spec h
  cases Option.some.inj (hn9.symm.trans B.named)
  cases Option.some.inj (h1.symm.trans B.method)
  cases Option.some.inj (h2.symm.trans (Stand.of_body B).code)
  rw [← h6, table_eq]
end Bodies
end VXA
/-! ===== END ===== -/
/-! ===== BEGIN a static call of a method with an exception table ===== -/
section VXS
variable {p : Program} {l : Launch} {e : Env} {R : Room} {s : State} {m : MethodId} {args : Array Value} {below : List Frame} {meth : Method} {c : Code} {T : State} {H : Heap} {locs : List Loc} {cells slots : Nat}
abbrev vx_CSW (R : Room) (s : State) (args : Array Value) (own : String) (index : Nat) (y : MethodName) (bytes : ByteArray) (maxL : Nat) (ret : Option FieldType) (hh : List (Nat × Nat × Nat × Nat)) (ws : List Cond) (rm : Room) (mc ms n : Nat) : Prop :=
  (rm.cells = mc ∧ rm.slots = ms ∧ rm.frames + 1 ≤ R.frames ∧ 8 + (maxL + 11) + rm.locals ≤ R.locals ∧ (∀ w ∈ ws, ∀ (a' : Array Value) (U : State), s.WarmedH U.vm → w.before a' U = true) ∧ Cond.codeWith y bytes maxL ret hh ∈ ws) ∧
  (Cond.codeWith y bytes maxL ret hh).before args s = true ∧ (Cond.initialized y.cls).before args s = true ∧ (y.cls ≠ "java/lang/invoke/MethodHandle" ∧ y.cls ≠ "java/lang/invoke/VarHandle") ∧
  (∀ sig, parseMethodDescriptor y.desc = some sig → n = sig.parameters.length) ∧ (Cond.methodLink own index y).before args s = true ∧ (Cond.static y).before args s = true
theorem vx_cwSW {own : String} {index maxL mc ms : Nat} {y : MethodName} {bytes : ByteArray} {ret : Option FieldType} {hh : List (Nat × Nat × Nat × Nat)} {Ts ws ws' : List Cond} {rm : Room} (n : Nat) (ht : ∀ w ∈ Ts, w.before args s = true) (hT : GoodIn Ts (va_wsS own index y ws)) (hw : ws = Cond.codeWith y bytes maxL ret hh :: ws') (hrc : rm.cells = mc) (hrs : rm.slots = ms)
    (hd : y.cls ≠ "java/lang/invoke/MethodHandle" ∧ y.cls ≠ "java/lang/invoke/VarHandle" ∧ (parseMethodDescriptor y.desc).map (fun d => d.parameters.length) = some n) (hR : rm.frames + 1 ≤ R.frames ∧ 8 + (maxL + 11) + rm.locals ≤ R.locals) :
    vx_CSW R s args own index y bytes maxL ret hh ws rm mc ms n := by
  have ok : ∀ w ∈ va_wsS own index y ws, w.before args s = true := fun w h => ht w (hT w h).1
  have hG : GoodIn Ts ws := fun w h => hT w (by unfold va_wsS; exact List.mem_append_right _ h)
  have hc : Cond.codeWith y bytes maxL ret hh ∈ ws := by rw [hw]; exact List.mem_cons_self
  refine ⟨⟨hrc, hrs, hR.1, hR.2, pay_in ht hG, hc⟩, ht _ (hG _ hc).1, ok _ (by simp [va_wsS]), ⟨hd.1, hd.2.1⟩, fun sig h => ?_, ok _ (by simp [va_wsS]), ok _ (by simp [va_wsS])⟩
  have h2 := hd.2.2
  rw [h] at h2
  exact (Option.some.inj h2).symm
theorem vx_callSW (X : Stand p l e R s m args below meth c T locs cells slots) (hexec : p.tables.exec = Jvm.exec) {own : String} {index : Nat} {y : MethodName} {bytes : ByteArray} {maxL : Nat} {ret : Option FieldType} {hh : List (Nat × Nat × Nat × Nat)}
    (hown : s.vm.findClass own = some m.cls) (hlink : (Cond.methodLink own index y).before args s = true) (hstat : (Cond.static y).before args s = true) (hinit : (Cond.initialized y.cls).before args s = true)
    (hcode : (Cond.codeWith y bytes maxL ret hh).before args s = true) (hy : y.cls ≠ "java/lang/invoke/MethodHandle" ∧ y.cls ≠ "java/lang/invoke/VarHandle")
    {W9 : Nat} {Pre : Pt → Array Value → Prop} {Post : Pt → Array Value → Option Value → Pt → Prop} (hK : Back l R p e below s args y 3 W9 Pre Post)
    {g : JFrame} (hg : g.method = m) (hsize : g.locals.size = c.maxLocals) {argsL rest : List Value} (hlen : ∀ sig, parseMethodDescriptor y.desc = some sig → argsL.length = sig.parameters.length)
    (hstack : g.stack = argsL.reverse ++ rest) (hW : 2 * g.monitorRoom + (rest.map fun v => v.category).sum ≤ W9) (hdg : decode c.code g.pc = .ok (.invokestatic index, 3))
    (hpre : ∀ vm₁, s.WarmedH vm₁ → Pre ⟨T.setVm vm₁, locs, cells, slots⟩ argsL.toArray) :
    ∃ (v : Option Value) (vm₁ : Vm) (B : Pt), s.WarmedH vm₁ ∧ Stand p l e R s m args below meth c B.U B.locs B.cells B.slots ∧ Post ⟨T.setVm vm₁, locs, cells, slots⟩ argsL.toArray v B ∧
      ∀ target, Steps p.tables e below (B.U.setTop { g with pc := g.pc + 3, stack := v.toList ++ rest }) target → Steps p.tables e below (T.setTop g) target := by
  obtain ⟨mk, methM, cM, hnamed, hmethM, -, -, -, -, -, -, hsigM⟩ := Cond.codeWith_spec hcode
  have hstatic : methM.isStatic = true := Cond.static_spec hnamed hmethM hstat
  obtain ⟨kP, hkP, -⟩ := className_of_methodNamed hnamed
  have hinitP : kP.init = .initialized := Cond.initialized_spec (findClass_of_methodNamed hnamed) hkP hinit
  obtain ⟨vm₁, X₁, hstep₁⟩ := X.invokestatic hexec hown hlink hnamed hmethM hstatic hkP hinitP hy (g := g) hg (argsL := argsL) (rest := rest) (hlen _ hsigM) hstack hdg
  obtain ⟨v, B, X', hpost, hsteps⟩ := hK m meth c ⟨T.setVm vm₁, locs, cells, slots⟩ { g with stack := rest } (.invokestatic index) mk argsL.toArray X₁ hg hsize hdg hW (X₁.named hnamed) (hpre vm₁ X₁.warmed)
  exact ⟨v, vm₁, B, X₁.warmed, X', hpost, fun target h => hstep₁ _ fun acts => by rw [doInvoke_state]; exact hsteps.trans h⟩
theorem vx_runSW {y : MethodName} {bytes cc : ByteArray} {maxL nL mc ms n index : Nat} {ret : Option FieldType} {hh : List (Nat × Nat × Nat × Nat)} {ws : List Cond} {rm : Room} {Pc : Array Value → State → Prop} {Qc : Array Value → State → Outcome → State → Prop} {free : Addr → Prop} {Ts : List Cond} {own : String} {As rest : List Value} {g : JFrame}
    (S : CallFix p m c cc nL s args Ts own) (hM : Met l y ws rm Pc Qc mc ms free) (cw : vx_CSW R s args own index y bytes maxL ret hh ws rm mc ms n) (hp : PreS s H Pc As)
    (hg : g.method = m) (hn : As.length = n) (hsize : g.locals.size = nL) (hstack : g.stack = As.reverse ++ rest) (hW : 2 * g.monitorRoom + (rest.map fun v => v.category).sum ≤ 8) (hdg : decode cc g.pc = .ok (.invokestatic index, 3)) (hf : cells + mc ≤ R.cells ∧ slots + ms ≤ R.slots) :
    va_Run p l e R s m args below meth c H locs cells slots mc ms g rest (Qc As.toArray) (free) := by
  obtain ⟨⟨hrc, hrs, hfr, hlo, hws, hcw⟩, hcode, hini, hy, hlen, hl, hstt⟩ := cw
  have hK : Back l R p e below s args y 3 8 (PreOf R mc ms Pc) (PostOf Qc mc ms free) := va_backW (hh := hh) (bytes := bytes) (maxL := maxL) (ret := ret) hM hp.1 hrc hrs hfr hlo hws hcw (fun a' U hW => word_at hW (Or.inl (by first | rfl | simp [Cond.onTables, Cond.keeps, Cond.steady])) hini)
  obtain ⟨hx, hb, hml, ho, -⟩ := S
  intro T hT X
  obtain ⟨v, vm₁, ⟨U', l2, c2, s2⟩, hW₁, X', ⟨g', mk, t, L, e1, e2, hq, h1, hL, h2, h3⟩, st⟩ := vx_callSW X hx (hh := hh) (bytes := bytes) (maxL := maxL) (ret := ret) ho hl hstt hini hcode hy hK hg (hsize.trans hml.symm) (argsL := As) (rest := rest) (fun sig h => hn.trans (hlen sig h)) hstack hW (by rw [hb]; exact hdg)
    (fun vm₁ hW₁ => ⟨hf.1, hf.2, hp.2 (T.setVm vm₁) hT hW₁⟩)
  dsimp only [Pt.U, Pt.locs, Pt.cells, Pt.slots] at X' e1 e2 h1 h2 h3 st
  subst h1; subst h2; subst h3
  exact ⟨v, (T.setVm vm₁).calling g' mk As.toArray, t, U', L, hT, X', hL, e1, e2, hq, st⟩
/-- a thing of a world lies in the heap -/
theorem vx_lt {D : va_G} {cl : List vw_C} {ws : va_W} {H1 : Heap} (h : va_P D cl ws H1) {k : Nat} {q : Nat × va_E} (hk : ws[k]? = some q) : q.1 < H1.size := (h k q hk).lt
end VXS
/-! ===== END ===== -/
/-! ===== BEGIN methods with a table of their own: called by a name, returning or throwing ===== -/
section VXH
/-! vx_backW, vx_callVX, vx_callSX, vx_callVW, vx_runVW, vx_runVX, vx_runSX, vx_ofWH follow the same proofs as their sisters above (Free/Laws.lean, Shelf42/LK1.lean); vx_outP calls Shelf42/NT130.lean (outThrough). -/
section
variable {l : Launch} {R : Room} {p : Program} {e : Env} {below : List Frame} {s : State} {sargs : Array Value} {y : MethodName} {len W9 : Nat}
theorem vx_backW {ws : List Cond} {rm : Room} {Pc : Array Value → State → Prop} {Qc : Array Value → State → Outcome → State → Prop} {XC : String → State → State → Prop} {mc ms : Nat} {free : Addr → Prop} {bytes : ByteArray} {maxL : Nat} {ret : Option FieldType} {hh : List (Nat × Nat × Nat × Nat)}
    (hM : vx_Met l y ws rm Pc Qc XC mc ms free) (hblind : FrameBlind Pc) (hrc : rm.cells = mc) (hrs : rm.slots = ms)
    (hframes : rm.frames + 1 ≤ R.frames) (hlocals : W9 + (maxL + 11) + rm.locals ≤ R.locals)
    (hws : ∀ w ∈ ws, ∀ a' U, s.WarmedH U.vm → w.before a' U = true) (hcode : Cond.codeWith y bytes maxL ret hh ∈ ws) (hinit : ∀ a' U, s.WarmedH U.vm → (Cond.initialized y.cls).before a' U = true) :
    vx_Back l R p e below s sargs y len W9 (PreOf R mc ms Pc) (PostOf Qc mc ms free) (vx_Post XC mc ms free) := by
  intro m meth c A g ig mk a X hg hsize hdg hW hn hp
  have h1 : (headSpec ws rm).pre.before a A.U = true := atoms_intro fun w hw => hws w hw _ _ X.warmed
  have h2 : (Cond.codeWith y bytes maxL ret hh).before a A.U = true := hws _ hcode _ _ X.warmed
  have h3 : (Cond.initialized y.cls).before a A.U = true := hinit _ _ X.warmed
  have h4 : A.cells + (headSpec ws rm).room.cells ≤ R.cells := by rw [show (headSpec ws rm).room.cells = mc from hrc]; exact hp.1
  have h5 : A.slots + (headSpec ws rm).room.slots ≤ R.slots := by rw [show (headSpec ws rm).room.slots = ms from hrs]; exact hp.2.1
  have hPc : Pc a (A.U.calling g mk a) := hblind _ _ _ _ hp.2.2
  obtain ⟨U, Ls, c0, s0⟩ := A
  dsimp only [Pt.U, Pt.locs, Pt.cells, Pt.slots] at h1 h2 h3 h4 h5 X hn hPc ⊢
  obtain ⟨m9, methY, cY, hn9, hmY, hcY, -, hlY, -⟩ := Cond.codeWith_spec h2
  cases Option.some.inj (hn9.symm.trans hn)
  obtain ⟨kY, hkY, -⟩ := className_of_methodNamed hn
  have hinitY : kY.init = .initialized := Cond.initialized_spec (findClass_of_methodNamed hn) hkY h3
  have h : At U g.method c below := by rw [hg]; exact X.here
  have hlocals9 : W9 + (maxL + 11) + (headSpec ws rm).room.locals ≤ R.locals := hlocals
  have happ : (headSpec ws rm).appliesLoose y e.platform (U.calling g mk a) = true :=
    Spec.appliesLoose_calling (g := g) h hdg hn hkY hinitY
      (X.room_calling (g := g) (R' := (headSpec ws rm).room) hsize hmY hcY hframes (by rw [hlY]; omega) h4 h5) h1
  obtain ⟨mid, hmid⟩ := h.above
  have hfr : (U.setTop g).frames = (.java g :: mid) ++ below := by rw [State.frames_setTop' g h.top, hmid]; rfl
  obtain ⟨o, s₂, hsteps, -, hend, hq⟩ := Steps.callFree hM p X.admits X.cas X.clock (acts := []) hfr happ hPc trivial
  have hq' : vx_Q Qc XC mc ms free a (U.calling g mk a) o s₂ := hq
  rw [State.frames_setTop' g h.top] at hend
  obtain ⟨g₀, hg0⟩ := Option.isSome_iff_exists.mp h.top
  obtain ⟨r, hr⟩ := State.topJava?_eq_some.mp hg0
  have hr' : (({ U with heap := s₂.heap, slotsUsed := s₂.slotsUsed } : State).setVm s₂.vm).frames = .java g₀ :: r := hr
  rcases hq' with ⟨hqc, L, hfe, hL⟩ | ⟨q, rfl, E, ce, L, hx, hce, hcv, hcl, hW₂, hsm, hL⟩
  · obtain ⟨⟨v, rfl⟩, hW₂, e2, q2, q3, q4, q5, q6⟩ := id hfe
    have e3 : s₂ = ({ (U.calling g mk a).setFrames s₂.frames with heap := s₂.heap, slotsUsed := s₂.slotsUsed } : State).setVm s₂.vm := by
      have : s₂ = ({ s₂ with vm := (U.calling g mk a).vm } : State).setVm s₂.vm := rfl
      rw [e2] at this
      exact this
    obtain ⟨c₂, i₂, len₂, hc₂, hd₂, hf₂⟩ := hend
    have hW' : U.WarmedH s₂.vm := hW₂
    have hcc : c₂ = c := by
      have h1 : s₂.code? g.method = U.code? g.method := by
        rw [State.code?_eq, State.code?_eq, hW'.alike.method?]
      exact Option.some.inj (hc₂.symm.trans (h1.trans h.code))
    subst hcc
    have hlen : len₂ = len := by rw [hdg] at hd₂; cases hd₂; rfl
    subst hlen
    have hs₂ : s₂ = (({ U with heap := s₂.heap, slotsUsed := s₂.slotsUsed } : State).setVm s₂.vm).setTop { g with pc := g.pc + len₂, stack := v.toList ++ g.stack } := by
      refine e3.trans ?_
      rw [hf₂, State.calling_eq h.top, State.setFrames_setFrames, State.setTop_of_frames _ hr', hr]
      rfl
    have hsame : U.sameButNew ({ U with heap := s₂.heap, slotsUsed := s₂.slotsUsed } : State) L mc ms := by
      refine ⟨?_, q2, q3, q4, q5, q6⟩
      obtain ⟨t, ht, -⟩ := State.frames_cons hr
      show ({ U with heap := s₂.heap, slotsUsed := s₂.slotsUsed } : State) = { U.setFrames U.frames with heap := s₂.heap, slotsUsed := s₂.slotsUsed }
      rw [State.setFrames_self ht]
    subst hg
    refine Or.inl ⟨v, ⟨(({ U with heap := s₂.heap, slotsUsed := s₂.slotsUsed } : State).setVm s₂.vm), Ls ++ L, c0 + mc, s0 + ms⟩,
      ⟨X.admits, X.cas, X.clock, X.frames, X.room, X.hears, X.method, X.code, (X.here.setHeapUsed s₂.heap s₂.slotsUsed).setVm hW'.alike, X.tail, State.WarmedH.trans X.warmed hW', X.limits, X.bytes, X.same.trans (hsame.setVm s.vm)⟩,
      ⟨g, mk, s₂, L, rfl, rfl, hqc, rfl, hL, rfl, rfl⟩, ?_⟩
    show Steps p.tables e below _ ((({ U with heap := s₂.heap, slotsUsed := s₂.slotsUsed } : State).setVm s₂.vm).setTop { g with pc := g.pc + len₂, stack := v.toList ++ g.stack })
    rw [← hs₂]
    exact hsteps
  · obtain ⟨e2, q2, q3, q4, q5, q6⟩ := id hsm
    have e3 : s₂ = ({ (U.calling g mk a).setFrames s₂.frames with heap := s₂.heap, slotsUsed := s₂.slotsUsed } : State).setVm s₂.vm := by
      have : s₂ = ({ s₂ with vm := (U.calling g mk a).vm } : State).setVm s₂.vm := rfl
      rw [e2] at this
      exact this
    have hf₂ : s₂.frames = .throwing q :: .java g :: U.frames.tail := hend
    have hW' : U.WarmedH s₂.vm := hW₂
    have hs₂ : s₂ = ((({ U with heap := s₂.heap, slotsUsed := s₂.slotsUsed } : State).setVm s₂.vm).setTop g).pushFrame (.throwing q) := by
      refine e3.trans ?_
      rw [hf₂, State.calling_eq h.top, State.setFrames_setFrames, State.pushFrame, State.frames_setTop _ hr', State.setTop_of_frames _ hr', State.setFrames_setFrames, hr]
      rfl
    have hsame : U.sameButNew ({ U with heap := s₂.heap, slotsUsed := s₂.slotsUsed } : State) L mc ms := by
      refine ⟨?_, q2, q3, q4, q5, q6⟩
      obtain ⟨t, ht, -⟩ := State.frames_cons hr
      show ({ U with heap := s₂.heap, slotsUsed := s₂.slotsUsed } : State) = { U.setFrames U.frames with heap := s₂.heap, slotsUsed := s₂.slotsUsed }
      rw [State.setFrames_self ht]
    subst hg
    refine Or.inr ⟨q, ⟨(({ U with heap := s₂.heap, slotsUsed := s₂.slotsUsed } : State).setVm s₂.vm), Ls ++ L, c0 + mc, s0 + ms⟩,
      ⟨X.admits, X.cas, X.clock, X.frames, X.room, X.hears, X.method, X.code, (X.here.setHeapUsed s₂.heap s₂.slotsUsed).setVm hW'.alike, X.tail, State.WarmedH.trans X.warmed hW', X.limits, X.bytes, X.same.trans (hsame.setVm s.vm)⟩,
      ⟨g, mk, s₂, L, E, ce, rfl, rfl, hx, hce, hcv, hcl, rfl, hL, rfl, rfl⟩, ?_⟩
    show Steps p.tables e below _ (((({ U with heap := s₂.heap, slotsUsed := s₂.slotsUsed } : State).setVm s₂.vm).setTop g).pushFrame (.throwing q))
    rw [← hs₂]
    exact hsteps
end
variable {p : Program} {l : Launch} {e : Env} {R : Room} {s : State} {m : MethodId} {args : Array Value} {below : List Frame} {meth : Method} {c : Code} {T : State} {H : Heap} {locs : List Loc} {cells slots : Nat}
theorem vx_callVX (X : Stand p l e R s m args below meth c T locs cells slots) (hexec : p.tables.exec = Jvm.exec) {own C : String} {index : Nat} {y : MethodName} {bytes : ByteArray} {maxL : Nat} {ret : Option FieldType} {hh : List (Nat × Nat × Nat × Nat)}
    (hown : s.vm.findClass own = some m.cls) (hlink : (Cond.methodLink own index y).before args s = true) (hinst : (Cond.instanceMethod y).before args s = true) (hsel : (Cond.selects C y y).before args s = true)
    (hcode : (Cond.codeWith y bytes maxL ret hh).before args s = true) (hy : y.cls ≠ "java/lang/invoke/MethodHandle" ∧ y.cls ≠ "java/lang/invoke/VarHandle")
    {W9 : Nat} {Pre : Pt → Array Value → Prop} {Post : Pt → Array Value → Option Value → Pt → Prop} {PostX : Pt → Array Value → Addr → Pt → Prop} (hK : vx_Back l R p e below s args y 3 W9 Pre Post PostX)
    {b : Addr} {cellB : Cell} (hcell : T.heap[b]? = some cellB) (hobj : cellB.vm.isStatics = false) (hcls : s.vm.findClass C = some cellB.cls)
    {g : JFrame} (hg : g.method = m) (hsize : g.locals.size = c.maxLocals) {argsL rest : List Value} (hlen : ∀ sig, parseMethodDescriptor y.desc = some sig → argsL.length = sig.parameters.length)
    (hstack : g.stack = argsL.reverse ++ .ref b :: rest) (hW : 2 * g.monitorRoom + (rest.map fun v => v.category).sum ≤ W9) (hdg : decode c.code g.pc = .ok (.invokevirtual index, 3))
    (hpre : ∀ vm₁, s.WarmedH vm₁ → Pre ⟨T.setVm vm₁, locs, cells, slots⟩ (Value.ref b :: argsL).toArray) :
    (∃ (v : Option Value) (vm₁ : Vm) (B : Pt), s.WarmedH vm₁ ∧ Stand p l e R s m args below meth c B.U B.locs B.cells B.slots ∧ Post ⟨T.setVm vm₁, locs, cells, slots⟩ (Value.ref b :: argsL).toArray v B ∧
      ∀ target, Steps p.tables e below (B.U.setTop { g with pc := g.pc + 3, stack := v.toList ++ rest }) target → Steps p.tables e below (T.setTop g) target) ∨
    (∃ (q : Addr) (vm₁ : Vm) (B : Pt), s.WarmedH vm₁ ∧ Stand p l e R s m args below meth c B.U B.locs B.cells B.slots ∧ PostX ⟨T.setVm vm₁, locs, cells, slots⟩ (Value.ref b :: argsL).toArray q B ∧
      Steps p.tables e below (T.setTop g) ((B.U.setTop { g with stack := rest }).pushFrame (.throwing q))) := by
  obtain ⟨mk, methM, hnamed, hmethM, hstM, habM⟩ := Cond.instanceMethod_spec hinst
  obtain ⟨m8, methM', cM, hn8, hmethM', -, -, -, -, -, -, hsigM⟩ := Cond.codeWith_spec hcode
  cases Option.some.inj (hn8.symm.trans hnamed)
  cases hmethM.symm.trans hmethM'
  obtain ⟨c2, r2, m2, q1, q2, q3, q4, kP, hkP, hkPi⟩ := Cond.selects_spec hsel
  cases hcls.symm.trans q1
  cases (State.methodFound?_of_named hnamed hy).symm.trans q2
  cases hnamed.symm.trans q3
  have hselP : selectMethod e.platform s.vm cellB.cls mk = .method mk := by rw [Launch.admits_selectMethod X.admits]; exact q4
  obtain ⟨vm₁, X₁, hstep₁⟩ := X.invokevirtual hexec hown hlink hnamed hmethM hstM hkP hkPi hy (a := b) (cell := cellB) hcell
    (fun z h => by rw [h] at hobj; cases hobj) hselP hmethM habM hkP hkPi (g := g) hg (argsL := argsL) (rest := rest) (hlen _ hsigM) hstack hdg
  rcases hK m meth c ⟨T.setVm vm₁, locs, cells, slots⟩ { g with stack := rest } (.invokevirtual index) mk (Value.ref b :: argsL).toArray X₁ hg hsize hdg hW (X₁.named hnamed) (hpre vm₁ X₁.warmed) with ⟨v, B, X', hpost, hsteps⟩ | ⟨q, B, X', hpost, hsteps⟩
  · exact Or.inl ⟨v, vm₁, B, X₁.warmed, X', hpost, fun target h => hstep₁ _ fun acts => by rw [doInvoke_state]; exact hsteps.trans h⟩
  · exact Or.inr ⟨q, vm₁, B, X₁.warmed, X', hpost, hstep₁ _ fun acts => by rw [doInvoke_state]; exact hsteps⟩
theorem vx_callSX (X : Stand p l e R s m args below meth c T locs cells slots) (hexec : p.tables.exec = Jvm.exec) {own : String} {index : Nat} {y : MethodName} {bytes : ByteArray} {maxL : Nat} {ret : Option FieldType} {hh : List (Nat × Nat × Nat × Nat)}
    (hown : s.vm.findClass own = some m.cls) (hlink : (Cond.methodLink own index y).before args s = true) (hstat : (Cond.static y).before args s = true) (hinit : (Cond.initialized y.cls).before args s = true)
    (hcode : (Cond.codeWith y bytes maxL ret hh).before args s = true) (hy : y.cls ≠ "java/lang/invoke/MethodHandle" ∧ y.cls ≠ "java/lang/invoke/VarHandle")
    {W9 : Nat} {Pre : Pt → Array Value → Prop} {Post : Pt → Array Value → Option Value → Pt → Prop} {PostX : Pt → Array Value → Addr → Pt → Prop} (hK : vx_Back l R p e below s args y 3 W9 Pre Post PostX)
    {g : JFrame} (hg : g.method = m) (hsize : g.locals.size = c.maxLocals) {argsL rest : List Value} (hlen : ∀ sig, parseMethodDescriptor y.desc = some sig → argsL.length = sig.parameters.length)
    (hstack : g.stack = argsL.reverse ++ rest) (hW : 2 * g.monitorRoom + (rest.map fun v => v.category).sum ≤ W9) (hdg : decode c.code g.pc = .ok (.invokestatic index, 3))
    (hpre : ∀ vm₁, s.WarmedH vm₁ → Pre ⟨T.setVm vm₁, locs, cells, slots⟩ argsL.toArray) :
    (∃ (v : Option Value) (vm₁ : Vm) (B : Pt), s.WarmedH vm₁ ∧ Stand p l e R s m args below meth c B.U B.locs B.cells B.slots ∧ Post ⟨T.setVm vm₁, locs, cells, slots⟩ argsL.toArray v B ∧
      ∀ target, Steps p.tables e below (B.U.setTop { g with pc := g.pc + 3, stack := v.toList ++ rest }) target → Steps p.tables e below (T.setTop g) target) ∨
    (∃ (q : Addr) (vm₁ : Vm) (B : Pt), s.WarmedH vm₁ ∧ Stand p l e R s m args below meth c B.U B.locs B.cells B.slots ∧ PostX ⟨T.setVm vm₁, locs, cells, slots⟩ argsL.toArray q B ∧
      Steps p.tables e below (T.setTop g) ((B.U.setTop { g with stack := rest }).pushFrame (.throwing q))) := by
  obtain ⟨mk, methM, cM, hnamed, hmethM, -, -, -, -, -, -, hsigM⟩ := Cond.codeWith_spec hcode
  have hstatic : methM.isStatic = true := Cond.static_spec hnamed hmethM hstat
  obtain ⟨kP, hkP, -⟩ := className_of_methodNamed hnamed
  have hinitP : kP.init = .initialized := Cond.initialized_spec (findClass_of_methodNamed hnamed) hkP hinit
  obtain ⟨vm₁, X₁, hstep₁⟩ := X.invokestatic hexec hown hlink hnamed hmethM hstatic hkP hinitP hy (g := g) hg (argsL := argsL) (rest := rest) (hlen _ hsigM) hstack hdg
  rcases hK m meth c ⟨T.setVm vm₁, locs, cells, slots⟩ { g with stack := rest } (.invokestatic index) mk argsL.toArray X₁ hg hsize hdg hW (X₁.named hnamed) (hpre vm₁ X₁.warmed) with ⟨v, B, X', hpost, hsteps⟩ | ⟨q, B, X', hpost, hsteps⟩
  · exact Or.inl ⟨v, vm₁, B, X₁.warmed, X', hpost, fun target h => hstep₁ _ fun acts => by rw [doInvoke_state]; exact hsteps.trans h⟩
  · exact Or.inr ⟨q, vm₁, B, X₁.warmed, X', hpost, hstep₁ _ fun acts => by rw [doInvoke_state]; exact hsteps⟩
theorem vx_callVW (X : Stand p l e R s m args below meth c T locs cells slots) (hexec : p.tables.exec = Jvm.exec) {own C : String} {index : Nat} {y : MethodName} {bytes : ByteArray} {maxL : Nat} {ret : Option FieldType} {hh : List (Nat × Nat × Nat × Nat)}
    (hown : s.vm.findClass own = some m.cls) (hlink : (Cond.methodLink own index y).before args s = true) (hinst : (Cond.instanceMethod y).before args s = true) (hsel : (Cond.selects C y y).before args s = true)
    (hcode : (Cond.codeWith y bytes maxL ret hh).before args s = true) (hy : y.cls ≠ "java/lang/invoke/MethodHandle" ∧ y.cls ≠ "java/lang/invoke/VarHandle")
    {W9 : Nat} {Pre : Pt → Array Value → Prop} {Post : Pt → Array Value → Option Value → Pt → Prop} (hK : Back l R p e below s args y 3 W9 Pre Post)
    {b : Addr} {cellB : Cell} (hcell : T.heap[b]? = some cellB) (hobj : cellB.vm.isStatics = false) (hcls : s.vm.findClass C = some cellB.cls)
    {g : JFrame} (hg : g.method = m) (hsize : g.locals.size = c.maxLocals) {argsL rest : List Value} (hlen : ∀ sig, parseMethodDescriptor y.desc = some sig → argsL.length = sig.parameters.length)
    (hstack : g.stack = argsL.reverse ++ .ref b :: rest) (hW : 2 * g.monitorRoom + (rest.map fun v => v.category).sum ≤ W9) (hdg : decode c.code g.pc = .ok (.invokevirtual index, 3))
    (hpre : ∀ vm₁, s.WarmedH vm₁ → Pre ⟨T.setVm vm₁, locs, cells, slots⟩ (Value.ref b :: argsL).toArray) :
    ∃ (v : Option Value) (vm₁ : Vm) (B : Pt), s.WarmedH vm₁ ∧ Stand p l e R s m args below meth c B.U B.locs B.cells B.slots ∧ Post ⟨T.setVm vm₁, locs, cells, slots⟩ (Value.ref b :: argsL).toArray v B ∧
      ∀ target, Steps p.tables e below (B.U.setTop { g with pc := g.pc + 3, stack := v.toList ++ rest }) target → Steps p.tables e below (T.setTop g) target := by
  obtain ⟨mk, methM, hnamed, hmethM, hstM, habM⟩ := Cond.instanceMethod_spec hinst
  obtain ⟨m8, methM', cM, hn8, hmethM', -, -, -, -, -, -, hsigM⟩ := Cond.codeWith_spec hcode
  cases Option.some.inj (hn8.symm.trans hnamed)
  cases hmethM.symm.trans hmethM'
  obtain ⟨c2, r2, m2, q1, q2, q3, q4, kP, hkP, hkPi⟩ := Cond.selects_spec hsel
  cases hcls.symm.trans q1
  cases (State.methodFound?_of_named hnamed hy).symm.trans q2
  cases hnamed.symm.trans q3
  have hselP : selectMethod e.platform s.vm cellB.cls mk = .method mk := by rw [Launch.admits_selectMethod X.admits]; exact q4
  obtain ⟨vm₁, X₁, hstep₁⟩ := X.invokevirtual hexec hown hlink hnamed hmethM hstM hkP hkPi hy (a := b) (cell := cellB) hcell
    (fun z h => by rw [h] at hobj; cases hobj) hselP hmethM habM hkP hkPi (g := g) hg (argsL := argsL) (rest := rest) (hlen _ hsigM) hstack hdg
  obtain ⟨v, B, X', hpost, hsteps⟩ := hK m meth c ⟨T.setVm vm₁, locs, cells, slots⟩ { g with stack := rest } (.invokevirtual index) mk (Value.ref b :: argsL).toArray X₁ hg hsize hdg hW (X₁.named hnamed) (hpre vm₁ X₁.warmed)
  exact ⟨v, vm₁, B, X₁.warmed, X', hpost, fun target h => hstep₁ _ fun acts => by rw [doInvoke_state]; exact hsteps.trans h⟩
abbrev vx_CVW (R : Room) (s : State) (args : Array Value) (own C : String) (index : Nat) (y : MethodName) (bytes : ByteArray) (maxL : Nat) (ret : Option FieldType) (hh : List (Nat × Nat × Nat × Nat)) (ws : List Cond) (rm : Room) (mc ms n : Nat) : Prop :=
  (rm.cells = mc ∧ rm.slots = ms ∧ rm.frames + 1 ≤ R.frames ∧ 8 + (maxL + 11) + rm.locals ≤ R.locals ∧ (∀ w ∈ ws, ∀ (a' : Array Value) (U : State), s.WarmedH U.vm → w.before a' U = true) ∧ Cond.codeWith y bytes maxL ret hh ∈ ws) ∧
  (Cond.codeWith y bytes maxL ret hh).before args s = true ∧ (Cond.initialized y.cls).before args s = true ∧ (y.cls ≠ "java/lang/invoke/MethodHandle" ∧ y.cls ≠ "java/lang/invoke/VarHandle") ∧
  (∀ sig, parseMethodDescriptor y.desc = some sig → n = sig.parameters.length) ∧ (Cond.methodLink own index y).before args s = true ∧ (Cond.instanceMethod y).before args s = true ∧ (Cond.selects C y y).before args s = true
theorem vx_cwVW {own C : String} {index maxL mc ms : Nat} {y : MethodName} {bytes : ByteArray} {ret : Option FieldType} {hh : List (Nat × Nat × Nat × Nat)} {Ts ws ws' : List Cond} {rm : Room} (n : Nat) (ht : ∀ w ∈ Ts, w.before args s = true) (hT : GoodIn Ts (wsV own index C y ws)) (hw : ws = Cond.codeWith y bytes maxL ret hh :: ws') (hrc : rm.cells = mc) (hrs : rm.slots = ms)
    (hd : y.cls = C ∧ y.cls ≠ "java/lang/invoke/MethodHandle" ∧ y.cls ≠ "java/lang/invoke/VarHandle" ∧ (parseMethodDescriptor y.desc).map (fun d => d.parameters.length) = some n) (hR : rm.frames + 1 ≤ R.frames ∧ 8 + (maxL + 11) + rm.locals ≤ R.locals) :
    vx_CVW R s args own C index y bytes maxL ret hh ws rm mc ms n := by
  obtain ⟨hC, hd⟩ := hd
  subst hC
  have ok : ∀ w ∈ wsV own index y.cls y ws, w.before args s = true := fun w h => ht w (hT w h).1
  have hG : GoodIn Ts ws := fun w h => hT w (by unfold wsV; exact List.mem_append_right _ h)
  have hc : Cond.codeWith y bytes maxL ret hh ∈ ws := by rw [hw]; exact List.mem_cons_self
  refine ⟨⟨hrc, hrs, hR.1, hR.2, pay_in ht hG, hc⟩, ht _ (hG _ hc).1, ok _ (by simp [wsV]), ⟨hd.1, hd.2.1⟩, fun sig h => ?_, ok _ (by simp [wsV]), ok _ (by simp [wsV]), ok _ (by simp [wsV])⟩
  have h2 := hd.2.2
  rw [h] at h2
  exact (Option.some.inj h2).symm
theorem vx_runVW {y : MethodName} {bytes cc : ByteArray} {maxL nL mc ms n index : Nat} {ret : Option FieldType} {hh : List (Nat × Nat × Nat × Nat)} {ws : List Cond} {rm : Room} {Pc : Array Value → State → Prop} {Qc : Array Value → State → Outcome → State → Prop} {free : Addr → Prop} {Ts : List Cond} {own C : String} {b : Addr} {As rest : List Value} {g : JFrame}
    (S : CallFix p m c cc nL s args Ts own) (hM : Met l y ws rm Pc Qc mc ms free) (cw : vx_CVW R s args own C index y bytes maxL ret hh ws rm mc ms n) (hp : PreV s H C b Pc As)
    (hg : g.method = m) (hn : As.length = n) (hsize : g.locals.size = nL) (hstack : g.stack = As.reverse ++ .ref b :: rest) (hW : 2 * g.monitorRoom + (rest.map fun v => v.category).sum ≤ 8) (hdg : decode cc g.pc = .ok (.invokevirtual index, 3)) (hf : cells + mc ≤ R.cells ∧ slots + ms ≤ R.slots) :
    va_Run p l e R s m args below meth c H locs cells slots mc ms g rest (Qc (Value.ref b :: As).toArray) free := by
  obtain ⟨⟨hrc, hrs, hfr, hlo, hws, hcw⟩, hcode, hini, hy, hlen, hl, hin, hse⟩ := cw
  have hK : Back l R p e below s args y 3 8 (PreOf R mc ms Pc) (PostOf Qc mc ms free) := va_backW (hh := hh) (bytes := bytes) (maxL := maxL) (ret := ret) hM hp.1 hrc hrs hfr hlo hws hcw (fun a' U hW => word_at hW (Or.inl (by first | rfl | simp [Cond.onTables, Cond.keeps, Cond.steady])) hini)
  obtain ⟨hx, hb, hml, ho, -⟩ := S
  obtain ⟨-, ⟨cellB, hcB, hoB, hclB⟩, hPc⟩ := hp
  intro T hT X
  obtain ⟨v, vm₁, ⟨U', l2, c2, s2⟩, hW₁, X', ⟨g', mk, t, L, e1, e2, hq, h1, hL, h2, h3⟩, st⟩ := vx_callVW X hx (C := C) (hh := hh) (bytes := bytes) (maxL := maxL) (ret := ret) ho hl hin hse hcode hy hK (by rw [hT]; exact hcB) hoB hclB hg (hsize.trans hml.symm) (argsL := As) (rest := rest) (fun sig h => hn.trans (hlen sig h)) hstack hW (by rw [hb]; exact hdg)
    (fun vm₁ hW₁ => ⟨hf.1, hf.2, hPc (T.setVm vm₁) hT hW₁⟩)
  dsimp only [Pt.U, Pt.locs, Pt.cells, Pt.slots] at X' e1 e2 h1 h2 h3 st
  subst h1; subst h2; subst h3
  exact ⟨v, (T.setVm vm₁).calling g' mk (Value.ref b :: As).toArray, t, U', L, hT, X', hL, e1, e2, hq, st⟩
section
variable {y : MethodName} {bytes cc : ByteArray} {maxL nL mc ms n index : Nat} {ret : Option FieldType} {ws : List Cond} {rm : Room} {Pc : Array Value → State → Prop} {Qc : Array Value → State → Outcome → State → Prop} {XC : String → State → State → Prop} {free : Addr → Prop} {Ts : List Cond} {own C : String} {b : Addr} {As rest : List Value} {g : JFrame}
theorem vx_runVX {hh : List (Nat × Nat × Nat × Nat)} (S : CallFix p m c cc nL s args Ts own) (hM : vx_Met l y ws rm Pc Qc XC mc ms free) (cw : vx_CVW R s args own C index y bytes maxL ret hh ws rm mc ms n) (hp : PreV s H C b Pc As)
    (hg : g.method = m) (hn : As.length = n) (hsize : g.locals.size = nL) (hstack : g.stack = As.reverse ++ .ref b :: rest) (hW : 2 * g.monitorRoom + (rest.map fun v => v.category).sum ≤ 8) (hdg : decode cc g.pc = .ok (.invokevirtual index, 3)) (hf : cells + mc ≤ R.cells ∧ slots + ms ≤ R.slots) :
    vx_Run p l e R s m args below meth c H locs cells slots mc ms g rest (Qc (Value.ref b :: As).toArray) XC free := by
  obtain ⟨⟨hrc, hrs, hfr, hlo, hws, hcw⟩, hcode, hini, hy, hlen, hl, hin, hse⟩ := cw
  have hK : vx_Back l R p e below s args y 3 8 (PreOf R mc ms Pc) (PostOf Qc mc ms free) (vx_Post XC mc ms free) := vx_backW (hh := hh) (bytes := bytes) (maxL := maxL) (ret := ret) hM hp.1 hrc hrs hfr hlo hws hcw (fun a' U hW => word_at hW (Or.inl (by first | rfl | simp [Cond.onTables, Cond.keeps, Cond.steady])) hini)
  obtain ⟨hx, hb, hml, ho, -⟩ := S
  obtain ⟨-, ⟨cellB, hcB, hoB, hclB⟩, hPc⟩ := hp
  intro T hT X
  rcases vx_callVX X hx (C := C) (hh := hh) (bytes := bytes) (maxL := maxL) (ret := ret) ho hl hin hse hcode hy hK (by rw [hT]; exact hcB) hoB hclB hg (hsize.trans hml.symm) (argsL := As) (rest := rest) (fun sig h => hn.trans (hlen sig h)) hstack hW (by rw [hb]; exact hdg)
    (fun vm₁ hW₁ => ⟨hf.1, hf.2, hPc (T.setVm vm₁) hT hW₁⟩) with ⟨v, vm₁, ⟨U', l2, c2, s2⟩, hW₁, X', ⟨g', mk, t, L, e1, e2, hq, h1, hL, h2, h3⟩, st⟩ | ⟨q, vm₁, ⟨U', l2, c2, s2⟩, hW₁, X', ⟨g', mk, t, L, E, ce, e1, e2, hq, hce, hcv, hcl, h1, hL, h2, h3⟩, st⟩
  · dsimp only [Pt.U, Pt.locs, Pt.cells, Pt.slots] at X' e1 e2 h1 h2 h3 st
    subst h1; subst h2; subst h3
    exact Or.inl ⟨v, (T.setVm vm₁).calling g' mk (Value.ref b :: As).toArray, t, U', L, hT, X', hL, e1, e2, hq, st⟩
  · dsimp only [Pt.U, Pt.locs, Pt.cells, Pt.slots] at X' e1 e2 h1 h2 h3 st hcl
    subst h1; subst h2; subst h3
    exact Or.inr ⟨q, (T.setVm vm₁).calling g' mk (Value.ref b :: As).toArray, t, U', L, E, ce, hT, X', hL, e1, e2, hq, hce, hcv, vx_cls hW₁ hcl, st⟩
theorem vx_runSX {hh : List (Nat × Nat × Nat × Nat)} (S : CallFix p m c cc nL s args Ts own) (hM : vx_Met l y ws rm Pc Qc XC mc ms free) (cw : vx_CSW R s args own index y bytes maxL ret hh ws rm mc ms n) (hp : PreS s H Pc As)
    (hg : g.method = m) (hn : As.length = n) (hsize : g.locals.size = nL) (hstack : g.stack = As.reverse ++ rest) (hW : 2 * g.monitorRoom + (rest.map fun v => v.category).sum ≤ 8) (hdg : decode cc g.pc = .ok (.invokestatic index, 3)) (hf : cells + mc ≤ R.cells ∧ slots + ms ≤ R.slots) :
    vx_Run p l e R s m args below meth c H locs cells slots mc ms g rest (Qc As.toArray) XC free := by
  obtain ⟨⟨hrc, hrs, hfr, hlo, hws, hcw⟩, hcode, hini, hy, hlen, hl, hstt⟩ := cw
  have hK : vx_Back l R p e below s args y 3 8 (PreOf R mc ms Pc) (PostOf Qc mc ms free) (vx_Post XC mc ms free) := vx_backW (hh := hh) (bytes := bytes) (maxL := maxL) (ret := ret) hM hp.1 hrc hrs hfr hlo hws hcw (fun a' U hW => word_at hW (Or.inl (by first | rfl | simp [Cond.onTables, Cond.keeps, Cond.steady])) hini)
  obtain ⟨hx, hb, hml, ho, -⟩ := S
  intro T hT X
  rcases vx_callSX X hx (hh := hh) (bytes := bytes) (maxL := maxL) (ret := ret) ho hl hstt hini hcode hy hK hg (hsize.trans hml.symm) (argsL := As) (rest := rest) (fun sig h => hn.trans (hlen sig h)) hstack hW (by rw [hb]; exact hdg)
    (fun vm₁ hW₁ => ⟨hf.1, hf.2, hp.2 (T.setVm vm₁) hT hW₁⟩) with ⟨v, vm₁, ⟨U', l2, c2, s2⟩, hW₁, X', ⟨g', mk, t, L, e1, e2, hq, h1, hL, h2, h3⟩, st⟩ | ⟨q, vm₁, ⟨U', l2, c2, s2⟩, hW₁, X', ⟨g', mk, t, L, E, ce, e1, e2, hq, hce, hcv, hcl, h1, hL, h2, h3⟩, st⟩
  · dsimp only [Pt.U, Pt.locs, Pt.cells, Pt.slots] at X' e1 e2 h1 h2 h3 st
    subst h1; subst h2; subst h3
    exact Or.inl ⟨v, (T.setVm vm₁).calling g' mk As.toArray, t, U', L, hT, X', hL, e1, e2, hq, st⟩
  · dsimp only [Pt.U, Pt.locs, Pt.cells, Pt.slots] at X' e1 e2 h1 h2 h3 st hcl
    subst h1; subst h2; subst h3
    exact Or.inr ⟨q, (T.setVm vm₁).calling g' mk As.toArray, t, U', L, E, ce, hT, X', hL, e1, e2, hq, hce, hcv, vx_cls hW₁ hcl, st⟩
end
end VXH
theorem vx_ofWH {l : Launch} {y : MethodName} {ws ws' : List Cond} {rm : Room} {Pc : Array Value → State → Prop} {Qc : Array Value → State → Outcome → State → Prop} {XC : String → State → State → Prop} {mc ms : Nat} {free : Addr → Prop} {cc : ByteArray} {maxL : Nat} {ret : Option FieldType} {hh : List (Nat × Nat × Nat × Nat)}
    (hy : plainName y.cls = true) (hw : ws = Cond.codeWith y cc maxL ret hh :: ws')
    (body : ∀ p e s m args below meth c s₁, BodyLoose p l y (headSpec ws rm) cc maxL ret e s m args below meth c s₁ → c.maxLocals = maxL → Pc args s →
      W p l e (headSpec ws rm).room s m args below meth c s.heap [] 0 0 (vx_MQ below Qc XC args s mc ms free) (entryFrame m args maxL)) : vx_Met l y ws rm Pc Qc XC mc ms free := by
  refine MetFree.of_bodyS (code := cc) (maxLocals := maxL) (ret := ret) hy ?_ ?_
  · intro args s m h hn
    obtain ⟨m9, meth, c, hn9, h1, h2, h3, h4, -, h5, h6, -⟩ := Cond.codeWith_spec (atoms_spec (ws := ws) h _ (by rw [hw]; exact List.mem_cons_self))
    cases hn.symm.trans hn9
    exact ⟨meth, c, h1, h2, h3, h4, h5, h6⟩
  · intro p e s m args below meth c s₁ B hml hP _
    have hh0 : s₁.heap = s.heap := by rw [B.state]; rfl
    obtain ⟨t, a1, o, b1, b2, b3⟩ := body p e s m args below meth c s₁ B hml hP s₁ hh0 (Stand.of_body B)
    exact ⟨t, o, a1, b1, b2, b3⟩
/-! ===== END ===== -/
end
section
def RX0 : String := "SessionGate$Coder"
def TX0 : u_T := fun k => match k with
  | _ => ("", "", "", false)
def tyX0 : Nat → FieldType := fun k => match k with
  | _ => .int
abbrev wsX00 : List Cond := u_ws RX0 TX0 0
theorem nmX0 : ∀ a, a < 0 → ∀ b, b < 0 → a ≠ b → (TX0 a).2.1 ≠ (TX0 b).2.1 := by decide +kernel
theorem tyX0_ok : ∀ k, k < 0 → parseFieldDescriptor (TX0 k).2.2.1 = some (tyX0 k) := by decide +kernel
abbrev cX0_encode : ByteArray := prog_2_method_2_code
def yX0_encode : MethodName := ⟨RX0, "encode", "([IILSessionGate$Text;)V"⟩
abbrev cX0_decodeCookie : ByteArray := prog_2_method_3_code
def yX0_decodeCookie : MethodName := ⟨RX0, "decodeCookie", "(LSessionGate$Text;[I)Z"⟩
abbrev cX0_isCookieForm : ByteArray := prog_2_method_4_code
def yX0_isCookieForm : MethodName := ⟨RX0, "isCookieForm", "(LSessionGate$Text;)Z"⟩
abbrev cX0_sixBits : ByteArray := prog_2_method_5_code
def yX0_sixBits : MethodName := ⟨RX0, "sixBits", "(I)I"⟩
def RX1 : String := "SessionGate$Key"
def TX1 : u_T := fun k => match k with
  | 0 => ("SessionGate$Key", "bytes", "[I", true)
  | 1 => ("SessionGate$Key", "number", "I", false)
  | _ => ("SessionGate$Key", "replacedAt", "J", false)
def tyX1 : Nat → FieldType := fun k => match k with
  | 0 => .array .int
  | 1 => .int
  | _ => .long
abbrev wsX10 : List Cond := u_ws RX1 TX1 3
theorem nmX1 : ∀ a, a < 3 → ∀ b, b < 3 → a ≠ b → (TX1 a).2.1 ≠ (TX1 b).2.1 := by decide +kernel
theorem tyX1_ok : ∀ k, k < 3 → parseFieldDescriptor (TX1 k).2.2.1 = some (tyX1 k) := by decide +kernel
abbrev cX1_init : ByteArray := prog_3_method_1_code
def yX1_init : MethodName := ⟨RX1, "<init>", "()V"⟩
abbrev cX1_fill : ByteArray := prog_3_method_2_code
def yX1_fill : MethodName := ⟨RX1, "fill", "(IIII)V"⟩
def RX2 : String := "SessionGate$KeyRing"
def TX2 : u_T := fun k => match k with
  | 0 => ("SessionGate$KeyRing", "places", "[LSessionGate$Key;", true)
  | 1 => ("SessionGate$KeyRing", "kept", "I", false)
  | _ => ("SessionGate$KeyRing", "newestPlace", "I", false)
def tyX2 : Nat → FieldType := fun k => match k with
  | 0 => .array (.object "SessionGate$Key")
  | 1 => .int
  | _ => .int
abbrev wsX20 : List Cond := u_ws RX2 TX2 3
theorem nmX2 : ∀ a, a < 3 → ∀ b, b < 3 → a ≠ b → (TX2 a).2.1 ≠ (TX2 b).2.1 := by decide +kernel
theorem tyX2_ok : ∀ k, k < 3 → parseFieldDescriptor (TX2 k).2.2.1 = some (tyX2 k) := by decide +kernel
abbrev cX2_init : ByteArray := prog_4_method_1_code
def yX2_init : MethodName := ⟨RX2, "<init>", "()V"⟩
abbrev cX2_newest : ByteArray := prog_4_method_2_code
def yX2_newest : MethodName := ⟨RX2, "newest", "()LSessionGate$Key;"⟩
abbrev cX2_advance : ByteArray := prog_4_method_3_code
def yX2_advance : MethodName := ⟨RX2, "advance", "(J)V"⟩
abbrev cX2_isLive : ByteArray := prog_4_method_4_code
def yX2_isLive : MethodName := ⟨RX2, "isLive", "(IJJ)Z"⟩
abbrev cX2_liveKey : ByteArray := prog_4_method_5_code
def yX2_liveKey : MethodName := ⟨RX2, "liveKey", "(IJJ)LSessionGate$Key;"⟩
abbrev cX2_liveOnes : ByteArray := prog_4_method_6_code
def yX2_liveOnes : MethodName := ⟨RX2, "liveOnes", "(JJ)I"⟩
def RX3 : String := "SessionGate$Mac"
def TX3 : u_T := fun k => match k with
  | 0 => ("SessionGate$Mac", "bytes", "[I", true)
  | 1 => ("SessionGate$Mac", "blocks", "[I", true)
  | 2 => ("SessionGate$Mac", "schedule", "[I", true)
  | _ => ("SessionGate$Mac", "state", "[I", true)
def tyX3 : Nat → FieldType := fun k => match k with
  | 0 => .array .int
  | 1 => .array .int
  | 2 => .array .int
  | _ => .array .int
abbrev wsX30 : List Cond := u_ws RX3 TX3 4
theorem nmX3 : ∀ a, a < 4 → ∀ b, b < 4 → a ≠ b → (TX3 a).2.1 ≠ (TX3 b).2.1 := by decide +kernel
theorem tyX3_ok : ∀ k, k < 4 → parseFieldDescriptor (TX3 k).2.2.1 = some (tyX3 k) := by decide +kernel
abbrev cX3_init : ByteArray := prog_5_method_1_code
def yX3_init : MethodName := ⟨RX3, "<init>", "()V"⟩
abbrev cX3_compute : ByteArray := prog_5_method_2_code
def yX3_compute : MethodName := ⟨RX3, "compute", "([I[II)V"⟩
abbrev cX3_fillBlocks : ByteArray := prog_5_method_3_code
def yX3_fillBlocks : MethodName := ⟨RX3, "fillBlocks", "([II[II)V"⟩
abbrev cX3_hashBlocks : ByteArray := prog_5_method_4_code
def yX3_hashBlocks : MethodName := ⟨RX3, "hashBlocks", "()V"⟩
abbrev cX3_fillSchedule : ByteArray := prog_5_method_5_code
def yX3_fillSchedule : MethodName := ⟨RX3, "fillSchedule", "(I)V"⟩
abbrev cX3_mixSchedule : ByteArray := prog_5_method_6_code
def yX3_mixSchedule : MethodName := ⟨RX3, "mixSchedule", "()V"⟩
abbrev cX3_turn : ByteArray := prog_5_method_7_code
def yX3_turn : MethodName := ⟨RX3, "turn", "(II)I"⟩
def RX4 : String := "SessionGate$Session"
def TX4 : u_T := fun k => match k with
  | 0 => ("SessionGate$Session", "open", "Z", false)
  | 1 => ("SessionGate$Session", "owner", "I", false)
  | 2 => ("SessionGate$Session", "id", "J", false)
  | 3 => ("SessionGate$Session", "began", "J", false)
  | _ => ("SessionGate$Session", "last", "J", false)
def tyX4 : Nat → FieldType := fun k => match k with
  | 0 => .boolean
  | 1 => .int
  | 2 => .long
  | 3 => .long
  | _ => .long
abbrev wsX40 : List Cond := u_ws RX4 TX4 5
theorem nmX4 : ∀ a, a < 5 → ∀ b, b < 5 → a ≠ b → (TX4 a).2.1 ≠ (TX4 b).2.1 := by decide +kernel
theorem tyX4_ok : ∀ k, k < 5 → parseFieldDescriptor (TX4 k).2.2.1 = some (tyX4 k) := by decide +kernel
abbrev cX4_init : ByteArray := prog_6_method_1_code
def yX4_init : MethodName := ⟨RX4, "<init>", "()V"⟩
abbrev cX4_begin : ByteArray := prog_6_method_2_code
def yX4_begin : MethodName := ⟨RX4, "begin", "(IJJ)V"⟩
def RX5 : String := "SessionGate$Text"
def TX5 : u_T := fun k => match k with
  | 0 => ("SessionGate$Text", "signs", "[I", true)
  | _ => ("SessionGate$Text", "length", "I", false)
def tyX5 : Nat → FieldType := fun k => match k with
  | 0 => .array .int
  | _ => .int
abbrev wsX50 : List Cond := u_ws RX5 TX5 2
theorem nmX5 : ∀ a, a < 2 → ∀ b, b < 2 → a ≠ b → (TX5 a).2.1 ≠ (TX5 b).2.1 := by decide +kernel
theorem tyX5_ok : ∀ k, k < 2 → parseFieldDescriptor (TX5 k).2.2.1 = some (tyX5 k) := by decide +kernel
abbrev cX5_init : ByteArray := prog_7_method_1_code
def yX5_init : MethodName := ⟨RX5, "<init>", "()V"⟩
abbrev cX5_has : ByteArray := prog_7_method_2_code
def yX5_has : MethodName := ⟨RX5, "has", "(I)Z"⟩
abbrev cX5_addSign : ByteArray := prog_7_method_3_code
def yX5_addSign : MethodName := ⟨RX5, "addSign", "(I)V"⟩
abbrev cX5_addSigns : ByteArray := prog_7_method_4_code
def yX5_addSigns : MethodName := ⟨RX5, "addSigns", "(I)V"⟩
abbrev cX5_isSameAs : ByteArray := prog_7_method_5_code
def yX5_isSameAs : MethodName := ⟨RX5, "isSameAs", "(LSessionGate$Text;)Z"⟩
def RX6 : String := "SessionGate$User"
def TX6 : u_T := fun k => match k with
  | 0 => ("SessionGate$User", "told", "Z", false)
  | 1 => ("SessionGate$User", "first", "I", false)
  | _ => ("SessionGate$User", "second", "I", false)
def tyX6 : Nat → FieldType := fun k => match k with
  | 0 => .boolean
  | 1 => .int
  | _ => .int
abbrev wsX60 : List Cond := u_ws RX6 TX6 3
theorem nmX6 : ∀ a, a < 3 → ∀ b, b < 3 → a ≠ b → (TX6 a).2.1 ≠ (TX6 b).2.1 := by decide +kernel
theorem tyX6_ok : ∀ k, k < 3 → parseFieldDescriptor (TX6 k).2.2.1 = some (tyX6 k) := by decide +kernel
abbrev cX6_init : ByteArray := prog_8_method_1_code
def yX6_init : MethodName := ⟨RX6, "<init>", "()V"⟩
abbrev cX6_tell : ByteArray := prog_8_method_2_code
def yX6_tell : MethodName := ⟨RX6, "tell", "(II)V"⟩
abbrev cX6_knows : ByteArray := prog_8_method_3_code
def yX6_knows : MethodName := ⟨RX6, "knows", "(II)Z"⟩
def RX7 : String := "SessionGate"
def TX7 : u_T := fun k => match k with
  | 0 => ("SessionGate", "mac", "LSessionGate$Mac;", true)
  | 1 => ("SessionGate", "keys", "LSessionGate$KeyRing;", true)
  | 2 => ("SessionGate", "cookie", "LSessionGate$Text;", true)
  | 3 => ("SessionGate", "token", "LSessionGate$Text;", true)
  | 4 => ("SessionGate", "dueToken", "LSessionGate$Text;", true)
  | 5 => ("SessionGate", "users", "[LSessionGate$User;", true)
  | 6 => ("SessionGate", "sessions", "[LSessionGate$Session;", true)
  | 7 => ("SessionGate", "seedBytes", "[I", true)
  | 8 => ("SessionGate", "countBytes", "[I", true)
  | 9 => ("SessionGate", "cookieBytes", "[I", true)
  | 10 => ("SessionGate", "markedBody", "[I", true)
  | 11 => ("SessionGate", "now", "J", false)
  | 12 => ("SessionGate", "grace", "J", false)
  | 13 => ("SessionGate", "most", "J", false)
  | 14 => ("SessionGate", "rest", "J", false)
  | 15 => ("SessionGate", "begunSinceSeed", "I", false)
  | 16 => ("SessionGate", "letIn", "I", false)
  | 17 => ("SessionGate", "refused", "I", false)
  | _ => ("SessionGate", "renewed", "I", false)
def tyX7 : Nat → FieldType := fun k => match k with
  | 0 => .object "SessionGate$Mac"
  | 1 => .object "SessionGate$KeyRing"
  | 2 => .object "SessionGate$Text"
  | 3 => .object "SessionGate$Text"
  | 4 => .object "SessionGate$Text"
  | 5 => .array (.object "SessionGate$User")
  | 6 => .array (.object "SessionGate$Session")
  | 7 => .array .int
  | 8 => .array .int
  | 9 => .array .int
  | 10 => .array .int
  | 11 => .long
  | 12 => .long
  | 13 => .long
  | 14 => .long
  | 15 => .int
  | 16 => .int
  | 17 => .int
  | _ => .int
abbrev wsX70 : List Cond := u_ws RX7 TX7 19
theorem nmX7 : ∀ a, a < 19 → ∀ b, b < 19 → a ≠ b → (TX7 a).2.1 ≠ (TX7 b).2.1 := by decide +kernel
theorem tyX7_ok : ∀ k, k < 19 → parseFieldDescriptor (TX7 k).2.2.1 = some (tyX7 k) := by decide +kernel
abbrev cX7_init : ByteArray := prog_1_method_1_code
def yX7_init : MethodName := ⟨RX7, "<init>", "()V"⟩
abbrev cX7_seed : ByteArray := prog_1_method_2_code
def yX7_seed : MethodName := ⟨RX7, "seed", "(J)V"⟩
abbrev cX7_pass : ByteArray := prog_1_method_3_code
def yX7_pass : MethodName := ⟨RX7, "pass", "(J)J"⟩
abbrev cX7_limits : ByteArray := prog_1_method_4_code
def yX7_limits : MethodName := ⟨RX7, "limits", "(JJJ)V"⟩
abbrev cX7_change : ByteArray := prog_1_method_5_code
def yX7_change : MethodName := ⟨RX7, "change", "(IIII)I"⟩
abbrev cX7_user : ByteArray := prog_1_method_6_code
def yX7_user : MethodName := ⟨RX7, "user", "(III)V"⟩
abbrev cX7_login : ByteArray := prog_1_method_7_code
def yX7_login : MethodName := ⟨RX7, "login", "(III)I"⟩
abbrev cX7_request : ByteArray := prog_1_method_8_code
def yX7_request : MethodName := ⟨RX7, "request", "(Z)I"⟩
abbrev cX7_logout : ByteArray := prog_1_method_9_code
def yX7_logout : MethodName := ⟨RX7, "logout", "()I"⟩
abbrev cX7_revoke : ByteArray := prog_1_method_10_code
def yX7_revoke : MethodName := ⟨RX7, "revoke", "(I)I"⟩
abbrev cX7_type : ByteArray := prog_1_method_11_code
def yX7_type : MethodName := ⟨RX7, "type", "(IIIII)I"⟩
abbrev cX7_erase : ByteArray := prog_1_method_12_code
def yX7_erase : MethodName := ⟨RX7, "erase", "(I)I"⟩
abbrev cX7_put : ByteArray := prog_1_method_13_code
def yX7_put : MethodName := ⟨RX7, "put", "(III)I"⟩
abbrev cX7_sign : ByteArray := prog_1_method_14_code
def yX7_sign : MethodName := ⟨RX7, "sign", "(II)I"⟩
abbrev cX7_session : ByteArray := prog_1_method_15_code
def yX7_session : MethodName := ⟨RX7, "session", "(II)J"⟩
abbrev cX7_count : ByteArray := prog_1_method_16_code
def yX7_count : MethodName := ⟨RX7, "count", "(I)I"⟩
abbrev cX7_octet : ByteArray := prog_1_method_17_code
def yX7_octet : MethodName := ⟨RX7, "octet", "(I)I"⟩
abbrev cX7_isLimit : ByteArray := prog_1_method_18_code
def yX7_isLimit : MethodName := ⟨RX7, "isLimit", "(J)Z"⟩
abbrev cX7_isUser : ByteArray := prog_1_method_19_code
def yX7_isUser : MethodName := ⟨RX7, "isUser", "(I)Z"⟩
abbrev cX7_isText : ByteArray := prog_1_method_20_code
def yX7_isText : MethodName := ⟨RX7, "isText", "(I)Z"⟩
abbrev cX7_textOf : ByteArray := prog_1_method_21_code
def yX7_textOf : MethodName := ⟨RX7, "textOf", "(I)LSessionGate$Text;"⟩
abbrev cX7_openSessions : ByteArray := prog_1_method_22_code
def yX7_openSessions : MethodName := ⟨RX7, "openSessions", "()I"⟩
abbrev cX7_freeNumber : ByteArray := prog_1_method_23_code
def yX7_freeNumber : MethodName := ⟨RX7, "freeNumber", "()I"⟩
abbrev cX7_endStaleSessions : ByteArray := prog_1_method_24_code
def yX7_endStaleSessions : MethodName := ⟨RX7, "endStaleSessions", "()V"⟩
abbrev cX7_isOld : ByteArray := prog_1_method_25_code
def yX7_isOld : MethodName := ⟨RX7, "isOld", "(LSessionGate$Session;)Z"⟩
abbrev cX7_isIdle : ByteArray := prog_1_method_26_code
def yX7_isIdle : MethodName := ⟨RX7, "isIdle", "(LSessionGate$Session;)Z"⟩
abbrev cX7_nextId : ByteArray := prog_1_method_27_code
def yX7_nextId : MethodName := ⟨RX7, "nextId", "()J"⟩
abbrev cX7_judge : ByteArray := prog_1_method_28_code
def yX7_judge : MethodName := ⟨RX7, "judge", "(Z)I"⟩
abbrev cX7_isSealedBy : ByteArray := prog_1_method_29_code
def yX7_isSealedBy : MethodName := ⟨RX7, "isSealedBy", "(LSessionGate$Key;)Z"⟩
abbrev cX7_numberOf : ByteArray := prog_1_method_30_code
def yX7_numberOf : MethodName := ⟨RX7, "numberOf", "(IJ)I"⟩
abbrev cX7_tally : ByteArray := prog_1_method_31_code
def yX7_tally : MethodName := ⟨RX7, "tally", "(I)V"⟩
abbrev cX7_writeTexts : ByteArray := prog_1_method_32_code
def yX7_writeTexts : MethodName := ⟨RX7, "writeTexts", "(LSessionGate$Session;)V"⟩
abbrev cX7_writeToken : ByteArray := prog_1_method_33_code
def yX7_writeToken : MethodName := ⟨RX7, "writeToken", "(LSessionGate$Key;LSessionGate$Text;)V"⟩
abbrev cX7_byteOf : ByteArray := prog_1_method_34_code
def yX7_byteOf : MethodName := ⟨RX7, "byteOf", "(II)I"⟩
abbrev cX7_signsIn : ByteArray := prog_1_method_35_code
def yX7_signsIn : MethodName := ⟨RX7, "signsIn", "(I)I"⟩
abbrev cX7_writeLong : ByteArray := prog_1_method_36_code
def yX7_writeLong : MethodName := ⟨RX7, "writeLong", "(J[II)V"⟩
abbrev cX7_readLong : ByteArray := prog_1_method_37_code
def yX7_readLong : MethodName := ⟨RX7, "readLong", "([II)J"⟩
def RX8 : String := "SessionGateModel"
def TX8 : u_T := fun k => match k with
  | 0 => ("SessionGateModel", "fault", "I", false)
  | 1 => ("SessionGateModel", "round", "[I", true)
  | 2 => ("SessionGateModel", "start", "[I", true)
  | 3 => ("SessionGateModel", "state", "[I", true)
  | 4 => ("SessionGateModel", "word", "[I", true)
  | 5 => ("SessionGateModel", "message", "[I", true)
  | 6 => ("SessionGateModel", "messageSize", "I", false)
  | 7 => ("SessionGateModel", "hash", "[I", true)
  | 8 => ("SessionGateModel", "key", "[I", true)
  | 9 => ("SessionGateModel", "said", "[I", true)
  | 10 => ("SessionGateModel", "saidSize", "I", false)
  | 11 => ("SessionGateModel", "now", "J", false)
  | 12 => ("SessionGateModel", "grace", "J", false)
  | 13 => ("SessionGateModel", "most", "J", false)
  | 14 => ("SessionGateModel", "rest", "J", false)
  | 15 => ("SessionGateModel", "seed", "J", false)
  | 16 => ("SessionGateModel", "begunAll", "J", false)
  | 17 => ("SessionGateModel", "keys", "I", false)
  | 18 => ("SessionGateModel", "keyNumber", "[I", true)
  | 19 => ("SessionGateModel", "keyBytes", "[I", true)
  | 20 => ("SessionGateModel", "keyUntil", "[J", true)
  | 21 => ("SessionGateModel", "hasPassword", "[Z", true)
  | 22 => ("SessionGateModel", "passwordA", "[I", true)
  | 23 => ("SessionGateModel", "passwordB", "[I", true)
  | 24 => ("SessionGateModel", "isThere", "[Z", true)
  | 25 => ("SessionGateModel", "user", "[I", true)
  | 26 => ("SessionGateModel", "id", "[J", true)
  | 27 => ("SessionGateModel", "began", "[J", true)
  | 28 => ("SessionGateModel", "last", "[J", true)
  | 29 => ("SessionGateModel", "size", "[I", true)
  | 30 => ("SessionGateModel", "texts", "[I", true)
  | 31 => ("SessionGateModel", "raw", "[I", true)
  | 32 => ("SessionGateModel", "letIn", "I", false)
  | 33 => ("SessionGateModel", "refusedMany", "I", false)
  | 34 => ("SessionGateModel", "renewed", "I", false)
  | _ => ("SessionGateModel", "keyAt", "I", false)
def tyX8 : Nat → FieldType := fun k => match k with
  | 0 => .int
  | 1 => .array .int
  | 2 => .array .int
  | 3 => .array .int
  | 4 => .array .int
  | 5 => .array .int
  | 6 => .int
  | 7 => .array .int
  | 8 => .array .int
  | 9 => .array .int
  | 10 => .int
  | 11 => .long
  | 12 => .long
  | 13 => .long
  | 14 => .long
  | 15 => .long
  | 16 => .long
  | 17 => .int
  | 18 => .array .int
  | 19 => .array .int
  | 20 => .array .long
  | 21 => .array .boolean
  | 22 => .array .int
  | 23 => .array .int
  | 24 => .array .boolean
  | 25 => .array .int
  | 26 => .array .long
  | 27 => .array .long
  | 28 => .array .long
  | 29 => .array .int
  | 30 => .array .int
  | 31 => .array .int
  | 32 => .int
  | 33 => .int
  | 34 => .int
  | _ => .int
abbrev wsX80 : List Cond := u_ws RX8 TX8 36
theorem nmX8 : ∀ a, a < 36 → ∀ b, b < 36 → a ≠ b → (TX8 a).2.1 ≠ (TX8 b).2.1 := by decide +kernel
theorem tyX8_ok : ∀ k, k < 36 → parseFieldDescriptor (TX8 k).2.2.1 = some (tyX8 k) := by decide +kernel
abbrev cX8_init : ByteArray := prog_10_method_1_code
def yX8_init : MethodName := ⟨RX8, "<init>", "()V"⟩
abbrev cX8_thrown : ByteArray := prog_10_method_2_code
def yX8_thrown : MethodName := ⟨RX8, "thrown", "()I"⟩
abbrev cX8_refused : ByteArray := prog_10_method_3_code
def yX8_refused : MethodName := ⟨RX8, "refused", "(I)Z"⟩
abbrev cX8_isIn : ByteArray := prog_10_method_4_code
def yX8_isIn : MethodName := ⟨RX8, "isIn", "(JJJ)Z"⟩
abbrev cX8_turn : ByteArray := prog_10_method_5_code
def yX8_turn : MethodName := ⟨RX8, "turn", "(II)I"⟩
abbrev cX8_block : ByteArray := prog_10_method_6_code
def yX8_block : MethodName := ⟨RX8, "block", "(I)V"⟩
abbrev cX8_hashNow : ByteArray := prog_10_method_7_code
def yX8_hashNow : MethodName := ⟨RX8, "hashNow", "()V"⟩
abbrev cX8_seal : ByteArray := prog_10_method_8_code
def yX8_seal : MethodName := ⟨RX8, "seal", "()V"⟩
abbrev cX8_say : ByteArray := prog_10_method_9_code
def yX8_say : MethodName := ⟨RX8, "say", "(I)V"⟩
abbrev cX8_takeKey : ByteArray := prog_10_method_10_code
def yX8_takeKey : MethodName := ⟨RX8, "takeKey", "(I)V"⟩
abbrev cX8_newId : ByteArray := prog_10_method_11_code
def yX8_newId : MethodName := ⟨RX8, "newId", "()J"⟩
abbrev cX8_signOf : ByteArray := prog_10_method_12_code
def yX8_signOf : MethodName := ⟨RX8, "signOf", "(I)I"⟩
abbrev cX8_valueOf : ByteArray := prog_10_method_13_code
def yX8_valueOf : MethodName := ⟨RX8, "valueOf", "(I)I"⟩
abbrev cX8_codedAt : ByteArray := prog_10_method_14_code
def yX8_codedAt : MethodName := ⟨RX8, "codedAt", "(II)I"⟩
abbrev cX8_body : ByteArray := prog_10_method_15_code
def yX8_body : MethodName := ⟨RX8, "body", "(IIJ)V"⟩
abbrev cX8_sealBody : ByteArray := prog_10_method_16_code
def yX8_sealBody : MethodName := ⟨RX8, "sealBody", "(II)V"⟩
abbrev cX8_token : ByteArray := prog_10_method_17_code
def yX8_token : MethodName := ⟨RX8, "token", "(I)V"⟩
abbrev cX8_issue : ByteArray := prog_10_method_18_code
def yX8_issue : MethodName := ⟨RX8, "issue", "(I)V"⟩
abbrev cX8_seed : ByteArray := prog_10_method_19_code
def yX8_seed : MethodName := ⟨RX8, "seed", "(J)V"⟩
abbrev cX8_pass : ByteArray := prog_10_method_20_code
def yX8_pass : MethodName := ⟨RX8, "pass", "(J)J"⟩
abbrev cX8_limits : ByteArray := prog_10_method_21_code
def yX8_limits : MethodName := ⟨RX8, "limits", "(JJJ)V"⟩
abbrev cX8_change : ByteArray := prog_10_method_22_code
def yX8_change : MethodName := ⟨RX8, "change", "(IIII)I"⟩
abbrev cX8_isLive : ByteArray := prog_10_method_23_code
def yX8_isLive : MethodName := ⟨RX8, "isLive", "(I)Z"⟩
abbrev cX8_user : ByteArray := prog_10_method_24_code
def yX8_user : MethodName := ⟨RX8, "user", "(III)V"⟩
abbrev cX8_isOld : ByteArray := prog_10_method_25_code
def yX8_isOld : MethodName := ⟨RX8, "isOld", "(I)Z"⟩
abbrev cX8_isIdle : ByteArray := prog_10_method_26_code
def yX8_isIdle : MethodName := ⟨RX8, "isIdle", "(I)Z"⟩
abbrev cX8_login : ByteArray := prog_10_method_27_code
def yX8_login : MethodName := ⟨RX8, "login", "(III)I"⟩
abbrev cX8_isForm : ByteArray := prog_10_method_28_code
def yX8_isForm : MethodName := ⟨RX8, "isForm", "()Z"⟩
abbrev cX8_look : ByteArray := prog_10_method_29_code
def yX8_look : MethodName := ⟨RX8, "look", "(Z)I"⟩
abbrev cX8_request : ByteArray := prog_10_method_30_code
def yX8_request : MethodName := ⟨RX8, "request", "(Z)I"⟩
abbrev cX8_logout : ByteArray := prog_10_method_31_code
def yX8_logout : MethodName := ⟨RX8, "logout", "()I"⟩
abbrev cX8_revoke : ByteArray := prog_10_method_32_code
def yX8_revoke : MethodName := ⟨RX8, "revoke", "(I)I"⟩
abbrev cX8_typed : ByteArray := prog_10_method_33_code
def yX8_typed : MethodName := ⟨RX8, "typed", "(III)I"⟩
abbrev cX8_many : ByteArray := prog_10_method_34_code
def yX8_many : MethodName := ⟨RX8, "many", "(I)I"⟩
abbrev cX8_type : ByteArray := prog_10_method_35_code
def yX8_type : MethodName := ⟨RX8, "type", "(IIIII)I"⟩
abbrev cX8_erase : ByteArray := prog_10_method_36_code
def yX8_erase : MethodName := ⟨RX8, "erase", "(I)I"⟩
abbrev cX8_put : ByteArray := prog_10_method_37_code
def yX8_put : MethodName := ⟨RX8, "put", "(III)I"⟩
abbrev cX8_sign : ByteArray := prog_10_method_38_code
def yX8_sign : MethodName := ⟨RX8, "sign", "(II)I"⟩
abbrev cX8_session : ByteArray := prog_10_method_39_code
def yX8_session : MethodName := ⟨RX8, "session", "(II)J"⟩
abbrev cX8_count : ByteArray := prog_10_method_40_code
def yX8_count : MethodName := ⟨RX8, "count", "(I)I"⟩
abbrev cX8_octet : ByteArray := prog_10_method_41_code
def yX8_octet : MethodName := ⟨RX8, "octet", "(I)I"⟩
def RJ11 : String := "java/lang/Character"
def TJ11 : u_T := fun k => match k with
  | _ => ("", "", "", false)
def tyJ11 : Nat → FieldType := fun k => match k with
  | _ => .int
abbrev wsJ110 : List Cond := u_ws RJ11 TJ11 0
theorem nmJ11 : ∀ a, a < 0 → ∀ b, b < 0 → a ≠ b → (TJ11 a).2.1 ≠ (TJ11 b).2.1 := by decide +kernel
theorem tyJ11_ok : ∀ k, k < 0 → parseFieldDescriptor (TJ11 k).2.2.1 = some (tyJ11 k) := by decide +kernel
abbrev cJ11_isValidCodePoint_9a6ad : ByteArray := prog_11_method_11_code
def yJ11_isValidCodePoint_9a6ad : MethodName := ⟨RJ11, "isValidCodePoint", "(I)Z"⟩
abbrev cJ11_highSurrogate_5068e : ByteArray := prog_11_method_28_code
def yJ11_highSurrogate_5068e : MethodName := ⟨RJ11, "highSurrogate", "(I)C"⟩
abbrev cJ11_lowSurrogate_5068e : ByteArray := prog_11_method_29_code
def yJ11_lowSurrogate_5068e : MethodName := ⟨RJ11, "lowSurrogate", "(I)C"⟩
def RJ9 : String := "java/lang/Math"
def TJ9 : u_T := fun k => match k with
  | _ => ("", "", "", false)
def tyJ9 : Nat → FieldType := fun k => match k with
  | _ => .int
abbrev wsJ90 : List Cond := u_ws RJ9 TJ9 0
theorem nmJ9 : ∀ a, a < 0 → ∀ b, b < 0 → a ≠ b → (TJ9 a).2.1 ≠ (TJ9 b).2.1 := by decide +kernel
theorem tyJ9_ok : ∀ k, k < 0 → parseFieldDescriptor (TJ9 k).2.2.1 = some (tyJ9 k) := by decide +kernel
abbrev cJ9_max_7cf53 : ByteArray := prog_16_method_65_code
def yJ9_max_7cf53 : MethodName := ⟨RJ9, "max", "(II)I"⟩
abbrev cJ9_min_7cf53 : ByteArray := prog_16_method_69_code
def yJ9_min_7cf53 : MethodName := ⟨RJ9, "min", "(II)I"⟩
def RJ0 : String := "java/lang/String"
def TJ0 : u_T := fun k => match k with
  | _ => ("", "", "", false)
def tyJ0 : Nat → FieldType := fun k => match k with
  | _ => .int
abbrev wsJ00 : List Cond := u_ws RJ0 TJ0 0
theorem nmJ0 : ∀ a, a < 0 → ∀ b, b < 0 → a ≠ b → (TJ0 a).2.1 ≠ (TJ0 b).2.1 := by decide +kernel
theorem tyJ0_ok : ∀ k, k < 0 → parseFieldDescriptor (TJ0 k).2.2.1 = some (tyJ0 k) := by decide +kernel
abbrev cJ0_length_8abf5 : ByteArray := prog_18_method_54_code
def yJ0_length_8abf5 : MethodName := ⟨RJ0, "length", "()I"⟩
abbrev cJ0_charAt_5068e : ByteArray := prog_18_method_56_code
def yJ0_charAt_5068e : MethodName := ⟨RJ0, "charAt", "(I)C"⟩
abbrev cJ0_indexOf_0f7a4 : ByteArray := prog_18_method_79_code
def yJ0_indexOf_0f7a4 : MethodName := ⟨RJ0, "indexOf", "(I)I"⟩
abbrev cJ0_indexOf_7cf53 : ByteArray := prog_18_method_80_code
def yJ0_indexOf_7cf53 : MethodName := ⟨RJ0, "indexOf", "(II)I"⟩
abbrev cJ0_coder_7d493 : ByteArray := prog_18_method_152_code
def yJ0_coder_7d493 : MethodName := ⟨RJ0, "coder", "()B"⟩
abbrev cJ0_isLatin1_aae02 : ByteArray := prog_18_method_154_code
def yJ0_isLatin1_aae02 : MethodName := ⟨RJ0, "isLatin1", "()Z"⟩
abbrev cJ0_checkIndex_df160 : ByteArray := prog_18_method_155_code
def yJ0_checkIndex_df160 : MethodName := ⟨RJ0, "checkIndex", "(II)V"⟩
abbrev cJ0_checkBoundsBeginEnd_23922 : ByteArray := prog_18_method_158_code
def yJ0_checkBoundsBeginEnd_23922 : MethodName := ⟨RJ0, "checkBoundsBeginEnd", "(III)V"⟩
def RJ1 : String := "java/lang/StringLatin1"
def TJ1 : u_T := fun k => match k with
  | _ => ("", "", "", false)
def tyJ1 : Nat → FieldType := fun k => match k with
  | _ => .int
abbrev wsJ10 : List Cond := u_ws RJ1 TJ1 0
theorem nmJ1 : ∀ a, a < 0 → ∀ b, b < 0 → a ≠ b → (TJ1 a).2.1 ≠ (TJ1 b).2.1 := by decide +kernel
theorem tyJ1_ok : ∀ k, k < 0 → parseFieldDescriptor (TJ1 k).2.2.1 = some (tyJ1 k) := by decide +kernel
abbrev cJ1_charAt_3b067 : ByteArray := prog_19_method_2_code
def yJ1_charAt_3b067 : MethodName := ⟨RJ1, "charAt", "([BI)C"⟩
abbrev cJ1_canEncode_9a6ad : ByteArray := prog_19_method_4_code
def yJ1_canEncode_9a6ad : MethodName := ⟨RJ1, "canEncode", "(I)Z"⟩
abbrev cJ1_indexOf_4cfef : ByteArray := prog_19_method_22_code
def yJ1_indexOf_4cfef : MethodName := ⟨RJ1, "indexOf", "([BIII)I"⟩
abbrev cJ1_indexOfChar_4cfef : ByteArray := prog_19_method_23_code
def yJ1_indexOfChar_4cfef : MethodName := ⟨RJ1, "indexOfChar", "([BIII)I"⟩
def RJ2 : String := "java/lang/StringUTF16"
def TJ2 : u_T := fun k => match k with
  | _ => ("", "", "", false)
def tyJ2 : Nat → FieldType := fun k => match k with
  | _ => .int
abbrev wsJ20 : List Cond := u_ws RJ2 TJ2 0
theorem nmJ2 : ∀ a, a < 0 → ∀ b, b < 0 → a ≠ b → (TJ2 a).2.1 ≠ (TJ2 b).2.1 := by decide +kernel
theorem tyJ2_ok : ∀ k, k < 0 → parseFieldDescriptor (TJ2 k).2.2.1 = some (tyJ2 k) := by decide +kernel
abbrev cJ2_getChar_3b067 : ByteArray := prog_20_method_5_code
def yJ2_getChar_3b067 : MethodName := ⟨RJ2, "getChar", "([BI)C"⟩
abbrev cJ2_length_9d52b : ByteArray := prog_20_method_6_code
def yJ2_length_9d52b : MethodName := ⟨RJ2, "length", "([B)I"⟩
abbrev cJ2_indexOf_4cfef : ByteArray := prog_20_method_40_code
def yJ2_indexOf_4cfef : MethodName := ⟨RJ2, "indexOf", "([BIII)I"⟩
abbrev cJ2_indexOfChar_4cfef : ByteArray := prog_20_method_47_code
def yJ2_indexOfChar_4cfef : MethodName := ⟨RJ2, "indexOfChar", "([BIII)I"⟩
abbrev cJ2_indexOfCharUnsafe_4cfef : ByteArray := prog_20_method_48_code
def yJ2_indexOfCharUnsafe_4cfef : MethodName := ⟨RJ2, "indexOfCharUnsafe", "([BIII)I"⟩
abbrev cJ2_indexOfSupplementary_4cfef : ByteArray := prog_20_method_49_code
def yJ2_indexOfSupplementary_4cfef : MethodName := ⟨RJ2, "indexOfSupplementary", "([BIII)I"⟩
abbrev cJ2_charAt_3b067 : ByteArray := prog_20_method_83_code
def yJ2_charAt_3b067 : MethodName := ⟨RJ2, "charAt", "([BI)C"⟩
abbrev cJ2_checkIndex_2214a : ByteArray := prog_20_method_91_code
def yJ2_checkIndex_2214a : MethodName := ⟨RJ2, "checkIndex", "(I[B)V"⟩
abbrev cJ2_checkBoundsBeginEnd_d044e : ByteArray := prog_20_method_93_code
def yJ2_checkBoundsBeginEnd_d044e : MethodName := ⟨RJ2, "checkBoundsBeginEnd", "(II[B)V"⟩
def RJ10 : String := "java/lang/System"
def TJ10 : u_T := fun k => match k with
  | _ => ("", "", "", false)
def tyJ10 : Nat → FieldType := fun k => match k with
  | _ => .int
abbrev wsJ100 : List Cond := u_ws RJ10 TJ10 0
theorem nmJ10 : ∀ a, a < 0 → ∀ b, b < 0 → a ≠ b → (TJ10 a).2.1 ≠ (TJ10 b).2.1 := by decide +kernel
theorem tyJ10_ok : ∀ k, k < 0 → parseFieldDescriptor (TJ10 k).2.2.1 = some (tyJ10 k) := by decide +kernel
def RJ3 : String := "jdk/internal/util/Preconditions"
def TJ3 : u_T := fun k => match k with
  | _ => ("", "", "", false)
def tyJ3 : Nat → FieldType := fun k => match k with
  | _ => .int
abbrev wsJ30 : List Cond := u_ws RJ3 TJ3 0
theorem nmJ3 : ∀ a, a < 0 → ∀ b, b < 0 → a ≠ b → (TJ3 a).2.1 ≠ (TJ3 b).2.1 := by decide +kernel
theorem tyJ3_ok : ∀ k, k < 0 → parseFieldDescriptor (TJ3 k).2.2.1 = some (tyJ3 k) := by decide +kernel
abbrev cJ3_checkIndex_8e157 : ByteArray := prog_23_method_11_code
def yJ3_checkIndex_8e157 : MethodName := ⟨RJ3, "checkIndex", "(IILjava/util/function/BiFunction;)I"⟩
abbrev cJ3_checkFromToIndex_8c36e : ByteArray := prog_23_method_12_code
def yJ3_checkFromToIndex_8c36e : MethodName := ⟨RJ3, "checkFromToIndex", "(IIILjava/util/function/BiFunction;)I"⟩
def RL : String := "SessionGateLaw"
abbrev cL_pass : ByteArray := method_3_code
def yL_pass : MethodName := ⟨RL, "pass", "(LSessionGate;J[J)I"⟩
abbrev cL_limits : ByteArray := method_4_code
def yL_limits : MethodName := ⟨RL, "limits", "(LSessionGate;JJJ)I"⟩
abbrev cL_user : ByteArray := method_5_code
def yL_user : MethodName := ⟨RL, "user", "(LSessionGate;III)I"⟩
abbrev cL_login : ByteArray := method_6_code
def yL_login : MethodName := ⟨RL, "login", "(LSessionGate;III[J)I"⟩
abbrev cL_revoke : ByteArray := method_7_code
def yL_revoke : MethodName := ⟨RL, "revoke", "(LSessionGate;I[J)I"⟩
abbrev cL_type : ByteArray := method_8_code
def yL_type : MethodName := ⟨RL, "type", "(LSessionGate;IIIII[J)I"⟩
abbrev cL_erase : ByteArray := method_9_code
def yL_erase : MethodName := ⟨RL, "erase", "(LSessionGate;I[J)I"⟩
abbrev cL_put : ByteArray := method_10_code
def yL_put : MethodName := ⟨RL, "put", "(LSessionGate;III[J)I"⟩
abbrev cL_sign : ByteArray := method_11_code
def yL_sign : MethodName := ⟨RL, "sign", "(LSessionGate;II[J)I"⟩
abbrev cL_session : ByteArray := method_12_code
def yL_session : MethodName := ⟨RL, "session", "(LSessionGate;II[J)I"⟩
abbrev cL_count : ByteArray := method_13_code
def yL_count : MethodName := ⟨RL, "count", "(LSessionGate;I[J)I"⟩
abbrev cL_octet : ByteArray := method_14_code
def yL_octet : MethodName := ⟨RL, "octet", "(LSessionGate;I[J)I"⟩
abbrev cL_law : ByteArray := code
def yL_law : MethodName := ⟨RL, "law", "([I)Z"⟩
def wsL_law0_r1 : List Cond := [Cond.classLink RL 8 RX7, Cond.instantiable RX7 19, Cond.initialized RX7, Cond.classLink RL 60 RX8, Cond.instantiable RX8 36, Cond.initialized RX8, Cond.arrayClass .long, Cond.constantLong RL 63 (4294967295), Cond.methodLink RL 59 yX7_init, Cond.instanceMethod yX7_init, Cond.code yX7_init cX7_init 2 none, Cond.methodLink RX7 1 objectInit, Cond.instanceMethod objectInit, Cond.code objectInit ⟨#[0xb1]⟩ 1 none, Cond.classLink RX7 7 RX3, Cond.instantiable RX3 4, Cond.initialized RX3, Cond.fieldLink RX7 10 "SessionGate" "mac" "LSessionGate$Mac;", Cond.classLink RX7 16 RX2, Cond.instantiable RX2 3, Cond.initialized RX2, Cond.fieldLink RX7 19 "SessionGate" "keys" "LSessionGate$KeyRing;", Cond.classLink RX7 23 RX5, Cond.instantiable RX5 2]
def wsL_law0_r2 : List Cond := [Cond.initialized RX5, Cond.fieldLink RX7 26 "SessionGate" "cookie" "LSessionGate$Text;", Cond.fieldLink RX7 30 "SessionGate" "token" "LSessionGate$Text;", Cond.fieldLink RX7 33 "SessionGate" "dueToken" "LSessionGate$Text;", Cond.classLink RX7 36 RX6, Cond.fieldLink RX7 38 "SessionGate" "users" "[LSessionGate$User;", Cond.classLink RX7 42 RX4, Cond.fieldLink RX7 44 "SessionGate" "sessions" "[LSessionGate$Session;", Cond.arrayClass .int, Cond.fieldLink RX7 48 "SessionGate" "seedBytes" "[I", Cond.fieldLink RX7 52 "SessionGate" "countBytes" "[I", Cond.fieldLink RX7 55 "SessionGate" "cookieBytes" "[I", Cond.fieldLink RX7 58 "SessionGate" "markedBody" "[I", Cond.fieldLink RX7 61 "SessionGate" "now" "J", Cond.constantLong RX7 65 (1000000), Cond.fieldLink RX7 67 "SessionGate" "grace" "J", Cond.fieldLink RX7 70 "SessionGate" "most" "J", Cond.fieldLink RX7 73 "SessionGate" "rest" "J", Cond.fieldLink RX7 76 "SessionGate" "begunSinceSeed" "I", Cond.fieldLink RX7 80 "SessionGate" "letIn" "I", Cond.fieldLink RX7 83 "SessionGate" "refused" "I", Cond.fieldLink RX7 86 "SessionGate" "renewed" "I", Cond.instantiable RX6 3, Cond.initialized RX6]
def wsL_law0_r3 : List Cond := [Cond.instantiable RX4 5, Cond.initialized RX4, Cond.instanceMethod yX3_init, Cond.code yX3_init cX3_init 1 none, Cond.methodLink RX3 1 objectInit, Cond.fieldLink RX3 9 "SessionGate$Mac" "bytes" "[I", Cond.fieldLink RX3 13 "SessionGate$Mac" "blocks" "[I", Cond.fieldLink RX3 16 "SessionGate$Mac" "schedule" "[I", Cond.fieldLink RX3 19 "SessionGate$Mac" "state" "[I", Cond.methodLink RX7 18 yX2_init, Cond.instanceMethod yX2_init, Cond.code yX2_init cX2_init 2 none, Cond.methodLink RX2 1 objectInit, Cond.classLink RX2 9 RX1, Cond.fieldLink RX2 11 "SessionGate$KeyRing" "places" "[LSessionGate$Key;", Cond.fieldLink RX2 15 "SessionGate$KeyRing" "kept" "I", Cond.fieldLink RX2 19 "SessionGate$KeyRing" "newestPlace" "I", Cond.instantiable RX1 3, Cond.initialized RX1, Cond.instanceMethod yX1_init, Cond.code yX1_init cX1_init 1 none, Cond.methodLink RX1 1 objectInit, Cond.fieldLink RX1 9 "SessionGate$Key" "bytes" "[I", Cond.fieldLink RX1 13 "SessionGate$Key" "number" "I"]
def wsL_law0_r4 : List Cond := [Cond.fieldLink RX1 17 "SessionGate$Key" "replacedAt" "J", Cond.instanceMethod yX5_init, Cond.code yX5_init cX5_init 1 none, Cond.methodLink RX5 3 objectInit, Cond.fieldLink RX5 9 "SessionGate$Text" "signs" "[I", Cond.fieldLink RX5 15 "SessionGate$Text" "length" "I", Cond.instanceMethod yX6_init, Cond.code yX6_init cX6_init 1 none, Cond.methodLink RX6 1 objectInit, Cond.fieldLink RX6 7 "SessionGate$User" "told" "Z", Cond.fieldLink RX6 13 "SessionGate$User" "first" "I", Cond.fieldLink RX6 17 "SessionGate$User" "second" "I", Cond.instanceMethod yX4_init, Cond.code yX4_init cX4_init 1 none, Cond.methodLink RX4 1 objectInit, Cond.fieldLink RX4 7 "SessionGate$Session" "open" "Z", Cond.fieldLink RX4 13 "SessionGate$Session" "owner" "I", Cond.fieldLink RX4 17 "SessionGate$Session" "id" "J", Cond.fieldLink RX4 21 "SessionGate$Session" "began" "J", Cond.fieldLink RX4 24 "SessionGate$Session" "last" "J", Cond.methodLink RL 62 yX8_init, Cond.instanceMethod yX8_init, Cond.code yX8_init cX8_init 1 none, Cond.methodLink RX8 1 objectInit]
def wsL_law0_r5 : List Cond := [Cond.constant RX8 7 (1116352408), Cond.constant RX8 8 (1899447441), Cond.constant RX8 9 (-1245643825), Cond.constant RX8 10 (-373957723), Cond.constant RX8 11 (961987163), Cond.constant RX8 12 (1508970993), Cond.constant RX8 13 (-1841331548), Cond.constant RX8 14 (-1424204075), Cond.constant RX8 15 (-670586216), Cond.constant RX8 16 (310598401), Cond.constant RX8 17 (607225278), Cond.constant RX8 18 (1426881987), Cond.constant RX8 19 (1925078388), Cond.constant RX8 20 (-2132889090), Cond.constant RX8 21 (-1680079193), Cond.constant RX8 22 (-1046744716), Cond.constant RX8 23 (-459576895), Cond.constant RX8 24 (-272742522), Cond.constant RX8 25 (264347078), Cond.constant RX8 26 (604807628), Cond.constant RX8 27 (770255983), Cond.constant RX8 28 (1249150122), Cond.constant RX8 29 (1555081692), Cond.constant RX8 30 (1996064986)]
def wsL_law0_r6 : List Cond := [Cond.constant RX8 31 (-1740746414), Cond.constant RX8 32 (-1473132947), Cond.constant RX8 33 (-1341970488), Cond.constant RX8 34 (-1084653625), Cond.constant RX8 35 (-958395405), Cond.constant RX8 36 (-710438585), Cond.constant RX8 37 (113926993), Cond.constant RX8 38 (338241895), Cond.constant RX8 39 (666307205), Cond.constant RX8 40 (773529912), Cond.constant RX8 41 (1294757372), Cond.constant RX8 42 (1396182291), Cond.constant RX8 43 (1695183700), Cond.constant RX8 44 (1986661051), Cond.constant RX8 45 (-2117940946), Cond.constant RX8 46 (-1838011259), Cond.constant RX8 47 (-1564481375), Cond.constant RX8 48 (-1474664885), Cond.constant RX8 49 (-1035236496), Cond.constant RX8 50 (-949202525), Cond.constant RX8 51 (-778901479), Cond.constant RX8 52 (-694614492), Cond.constant RX8 53 (-200395387), Cond.constant RX8 54 (275423344)]
def wsL_law0_r7 : List Cond := [Cond.constant RX8 55 (430227734), Cond.constant RX8 56 (506948616), Cond.constant RX8 57 (659060556), Cond.constant RX8 58 (883997877), Cond.constant RX8 59 (958139571), Cond.constant RX8 60 (1322822218), Cond.constant RX8 61 (1537002063), Cond.constant RX8 62 (1747873779), Cond.constant RX8 63 (1955562222), Cond.constant RX8 64 (2024104815), Cond.constant RX8 65 (-2067236844), Cond.constant RX8 66 (-1933114872), Cond.constant RX8 67 (-1866530822), Cond.constant RX8 68 (-1538233109), Cond.constant RX8 69 (-1090935817), Cond.constant RX8 70 (-965641998), Cond.fieldLink RX8 71 "SessionGateModel" "round" "[I", Cond.constant RX8 77 (1779033703), Cond.constant RX8 78 (-1150833019), Cond.constant RX8 79 (1013904242), Cond.constant RX8 80 (-1521486534), Cond.constant RX8 81 (1359893119), Cond.constant RX8 82 (-1694144372), Cond.constant RX8 83 (528734635)]
def wsL_law0_r8 : List Cond := [Cond.constant RX8 84 (1541459225), Cond.fieldLink RX8 85 "SessionGateModel" "start" "[I", Cond.fieldLink RX8 88 "SessionGateModel" "state" "[I", Cond.fieldLink RX8 91 "SessionGateModel" "word" "[I", Cond.fieldLink RX8 94 "SessionGateModel" "message" "[I", Cond.fieldLink RX8 97 "SessionGateModel" "hash" "[I", Cond.fieldLink RX8 100 "SessionGateModel" "key" "[I", Cond.fieldLink RX8 103 "SessionGateModel" "said" "[I", Cond.constantLong RX8 106 (1000000), Cond.fieldLink RX8 108 "SessionGateModel" "grace" "J", Cond.fieldLink RX8 112 "SessionGateModel" "most" "J", Cond.fieldLink RX8 115 "SessionGateModel" "rest" "J", Cond.fieldLink RX8 118 "SessionGateModel" "keys" "I", Cond.fieldLink RX8 122 "SessionGateModel" "keyNumber" "[I", Cond.fieldLink RX8 125 "SessionGateModel" "keyBytes" "[I", Cond.fieldLink RX8 128 "SessionGateModel" "keyUntil" "[J", Cond.arrayClass .boolean, Cond.fieldLink RX8 132 "SessionGateModel" "hasPassword" "[Z", Cond.fieldLink RX8 136 "SessionGateModel" "passwordA" "[I", Cond.fieldLink RX8 139 "SessionGateModel" "passwordB" "[I", Cond.fieldLink RX8 142 "SessionGateModel" "isThere" "[Z", Cond.fieldLink RX8 145 "SessionGateModel" "user" "[I", Cond.fieldLink RX8 148 "SessionGateModel" "id" "[J", Cond.fieldLink RX8 151 "SessionGateModel" "began" "[J"]
def wsL_law0_r9 : List Cond := [Cond.fieldLink RX8 154 "SessionGateModel" "last" "[J", Cond.fieldLink RX8 157 "SessionGateModel" "size" "[I", Cond.fieldLink RX8 160 "SessionGateModel" "texts" "[I", Cond.fieldLink RX8 163 "SessionGateModel" "raw" "[I", Cond.methodLink RL 65 yX7_seed, Cond.instanceMethod yX7_seed, Cond.selects RX7 yX7_seed yX7_seed, Cond.code yX7_seed cX7_seed 3 none, Cond.methodLink RX7 91 yX7_writeLong, Cond.static yX7_writeLong, Cond.code yX7_writeLong cX7_writeLong 5 none, Cond.methodLink RL 69 yX8_seed, Cond.instanceMethod yX8_seed, Cond.selects RX8 yX8_seed yX8_seed, Cond.code yX8_seed cX8_seed 3 none, Cond.fieldLink RX8 166 "SessionGateModel" "fault" "I", Cond.fieldLink RX8 186 "SessionGateModel" "seed" "J", Cond.fieldLink RX8 191 "SessionGateModel" "begunAll" "J", Cond.methodLink RL 70 yL_pass, Cond.static yL_pass, Cond.initialized RL, Cond.codeWith yL_pass cL_pass 5 (some .int) [(0, 8, 11, 13)], Cond.classLink RL 13 "java/lang/IllegalArgumentException", Cond.methodLink RL 7 yX7_pass]
def wsL_law0_r10 : List Cond := [Cond.instanceMethod yX7_pass, Cond.selects RX7 yX7_pass yX7_pass, Cond.code yX7_pass cX7_pass 3 (some .long), Cond.classLink RX7 97 "java/lang/IllegalArgumentException", Cond.initialized "java/lang/IllegalArgumentException", Cond.constantLong RX7 95 (10000000000), Cond.methodLink RL 75 yX8_pass, Cond.instanceMethod yX8_pass, Cond.selects RX8 yX8_pass yX8_pass, Cond.code yX8_pass cX8_pass 3 (some .long), Cond.constantLong RX8 221 (10000000000), Cond.fieldLink RX8 231 "SessionGateModel" "now" "J", Cond.methodLink RX8 223 yX8_isIn, Cond.static yX8_isIn, Cond.code yX8_isIn cX8_isIn 6 (some .boolean), Cond.methodLink RX8 227 yX8_refused, Cond.instanceMethod yX8_refused, Cond.selects RX8 yX8_refused yX8_refused, Cond.code yX8_refused cX8_refused 2 (some .boolean), Cond.methodLink RL 76 yX8_thrown, Cond.instanceMethod yX8_thrown, Cond.selects RX8 yX8_thrown yX8_thrown, Cond.code yX8_thrown cX8_thrown 1 (some .int), Cond.methodLink RL 80 yL_limits]
def wsL_law0_r11 : List Cond := [Cond.static yL_limits, Cond.codeWith yL_limits cL_limits 8 (some .int) [(0, 8, 11, 13)], Cond.methodLink RL 15 yX7_limits, Cond.instanceMethod yX7_limits, Cond.selects RX7 yX7_limits yX7_limits, Cond.code yX7_limits cX7_limits 7 none, Cond.methodLink RX7 100 yX7_isLimit, Cond.static yX7_isLimit, Cond.code yX7_isLimit cX7_isLimit 2 (some .boolean), Cond.constantLong RX7 222 (1000000000000), Cond.methodLink RL 83 yX8_limits, Cond.instanceMethod yX8_limits, Cond.selects RX8 yX8_limits yX8_limits, Cond.code yX8_limits cX8_limits 9 none, Cond.constantLong RX8 234 (1000000000000), Cond.methodLink RL 84 yX7_change, Cond.instanceMethod yX7_change, Cond.selects RX7 yX7_change yX7_change, Cond.code yX7_change cX7_change 6 (some .int), Cond.methodLink RX7 104 yX2_advance, Cond.instanceMethod yX2_advance, Cond.selects RX2 yX2_advance yX2_advance, Cond.code yX2_advance cX2_advance 4 none, Cond.methodLink RX7 108 yX2_newest]
def wsL_law0_r12 : List Cond := [Cond.instanceMethod yX2_newest, Cond.selects RX2 yX2_newest yX2_newest, Cond.code yX2_newest cX2_newest 1 (some (.object "SessionGate$Key")), Cond.methodLink RX7 112 yX1_fill, Cond.instanceMethod yX1_fill, Cond.selects RX1 yX1_fill yX1_fill, Cond.code yX1_fill cX1_fill 6 none, Cond.static yX7_byteOf, Cond.code yX7_byteOf cX7_byteOf 2 (some .int), Cond.methodLink RL 88 yX8_change, Cond.instanceMethod yX8_change, Cond.selects RX8 yX8_change yX8_change, Cond.code yX8_change cX8_change 7 (some .int), Cond.methodLink RL 89 yL_user, Cond.static yL_user, Cond.codeWith yL_user cL_user 5 (some .int) [(0, 7, 10, 13)], Cond.methodLink RL 19 yX7_user, Cond.instanceMethod yX7_user, Cond.selects RX7 yX7_user yX7_user, Cond.code yX7_user cX7_user 4 none, Cond.methodLink RX7 121 yX7_isUser, Cond.static yX7_isUser, Cond.code yX7_isUser cX7_isUser 1 (some .boolean), Cond.methodLink RX7 125 yX6_tell]
def wsL_law0_r13 : List Cond := [Cond.instanceMethod yX6_tell, Cond.selects RX6 yX6_tell yX6_tell, Cond.code yX6_tell cX6_tell 3 none, Cond.methodLink RL 92 yX8_user, Cond.instanceMethod yX8_user, Cond.selects RX8 yX8_user yX8_user, Cond.code yX8_user cX8_user 4 none, Cond.constantLong RX8 236 (7), Cond.methodLink RL 93 yL_login, Cond.static yL_login, Cond.codeWith yL_login cL_login 6 (some .int) [(0, 12, 15, 13)], Cond.methodLink RL 23 yX7_login, Cond.instanceMethod yX7_login, Cond.selects RX7 yX7_login yX7_login, Cond.code yX7_login cX7_login 5 (some .int), Cond.methodLink RX7 129 yX6_knows, Cond.instanceMethod yX6_knows, Cond.selects RX6 yX6_knows yX6_knows, Cond.code yX6_knows cX6_knows 3 (some .boolean), Cond.methodLink RX7 133 yX7_endStaleSessions, Cond.instanceMethod yX7_endStaleSessions, Cond.selects RX7 yX7_endStaleSessions yX7_endStaleSessions, Cond.code yX7_endStaleSessions cX7_endStaleSessions 2 none, Cond.methodLink RX7 224 yX7_isOld]
def wsL_law0_r14 : List Cond := [Cond.instanceMethod yX7_isOld, Cond.selects RX7 yX7_isOld yX7_isOld, Cond.code yX7_isOld cX7_isOld 2 (some .boolean), Cond.methodLink RX7 228 yX7_isIdle, Cond.instanceMethod yX7_isIdle, Cond.selects RX7 yX7_isIdle yX7_isIdle, Cond.code yX7_isIdle cX7_isIdle 2 (some .boolean), Cond.methodLink RX7 136 yX7_freeNumber, Cond.instanceMethod yX7_freeNumber, Cond.selects RX7 yX7_freeNumber yX7_freeNumber, Cond.code yX7_freeNumber cX7_freeNumber 2 (some .int), Cond.methodLink RX7 140 yX7_nextId, Cond.instanceMethod yX7_nextId, Cond.selects RX7 yX7_nextId yX7_nextId, Cond.code yX7_nextId cX7_nextId 1 (some .long), Cond.methodLink RX7 217 yX3_compute, Cond.instanceMethod yX3_compute, Cond.selects RX3 yX3_compute yX3_compute, Cond.code yX3_compute cX3_compute 4 none, Cond.methodLink RX3 22 yX3_fillBlocks, Cond.instanceMethod yX3_fillBlocks, Cond.selects RX3 yX3_fillBlocks yX3_fillBlocks, Cond.code yX3_fillBlocks cX3_fillBlocks 6 none, Cond.methodLink RX3 26 yX3_hashBlocks]
def wsL_law0_r15 : List Cond := [Cond.instanceMethod yX3_hashBlocks, Cond.selects RX3 yX3_hashBlocks yX3_hashBlocks, Cond.code yX3_hashBlocks cX3_hashBlocks 2 none, Cond.fieldLink RX3 29 "SessionGate$Mac" "START" "[I", Cond.methodLink RX3 32 arraycopyName, Cond.native arraycopyName, Cond.static arraycopyName, Cond.initialized "java/lang/System", Cond.methodLink RX3 38 yX3_fillSchedule, Cond.instanceMethod yX3_fillSchedule, Cond.selects RX3 yX3_fillSchedule yX3_fillSchedule, Cond.code yX3_fillSchedule cX3_fillSchedule 7 none, Cond.methodLink RX3 51 yX3_turn, Cond.static yX3_turn, Cond.code yX3_turn cX3_turn 2 (some .int), Cond.methodLink RX3 42 yX3_mixSchedule, Cond.instanceMethod yX3_mixSchedule, Cond.selects RX3 yX3_mixSchedule yX3_mixSchedule, Cond.code yX3_mixSchedule cX3_mixSchedule 14 none, Cond.fieldLink RX3 54 "SessionGate$Mac" "ROUNDS" "[I", Cond.methodLink RX7 231 yX7_readLong, Cond.static yX7_readLong, Cond.code yX7_readLong cX7_readLong 5 (some .long), Cond.methodLink RX7 144 yX4_begin]
def wsL_law0_r16 : List Cond := [Cond.instanceMethod yX4_begin, Cond.selects RX4 yX4_begin yX4_begin, Cond.code yX4_begin cX4_begin 6 none, Cond.methodLink RX7 148 yX7_writeTexts, Cond.instanceMethod yX7_writeTexts, Cond.selects RX7 yX7_writeTexts yX7_writeTexts, Cond.code yX7_writeTexts cX7_writeTexts 3 none, Cond.methodLink RX7 261 arraycopyName, Cond.methodLink RX7 267 yX0_encode, Cond.static yX0_encode, Cond.initialized RX0, Cond.code yX0_encode cX0_encode 9 none, Cond.methodLink RX0 19 yJ0_charAt_5068e, Cond.instanceMethod yJ0_charAt_5068e, Cond.selects RJ0 yJ0_charAt_5068e yJ0_charAt_5068e, Cond.initialized RJ0, Cond.code yJ0_charAt_5068e cJ0_charAt_5068e 2 (some .char), Cond.fieldLink RJ0 9 "java/lang/String" "value" "[B", Cond.methodLink RJ0 492 yJ0_isLatin1_aae02, Cond.instanceMethod yJ0_isLatin1_aae02, Cond.selects RJ0 yJ0_isLatin1_aae02 yJ0_isLatin1_aae02, Cond.code yJ0_isLatin1_aae02 cJ0_isLatin1_aae02 1 (some .boolean), Cond.fieldLink RJ0 38 "java/lang/String" "COMPACT_STRINGS" "Z", Cond.fieldLink RJ0 15 "java/lang/String" "coder" "B"]
def wsL_law0_r17 : List Cond := [Cond.methodLink RJ0 495 yJ1_charAt_3b067, Cond.static yJ1_charAt_3b067, Cond.initialized RJ1, Cond.code yJ1_charAt_3b067 cJ1_charAt_3b067 2 (some .char), Cond.methodLink RJ1 9 yJ0_checkIndex_df160, Cond.static yJ0_checkIndex_df160, Cond.code yJ0_checkIndex_df160 cJ0_checkIndex_df160 2 none, Cond.fieldLink RJ0 1053 "jdk/internal/util/Preconditions" "SIOOBE_FORMATTER" "Ljava/util/function/BiFunction;", Cond.methodLink RJ0 1059 yJ3_checkIndex_8e157, Cond.static yJ3_checkIndex_8e157, Cond.initialized RJ3, Cond.code yJ3_checkIndex_8e157 cJ3_checkIndex_8e157 3 (some .int), Cond.methodLink RJ0 498 yJ2_charAt_3b067, Cond.static yJ2_charAt_3b067, Cond.initialized RJ2, Cond.code yJ2_charAt_3b067 cJ2_charAt_3b067 2 (some .char), Cond.methodLink RJ2 67 yJ2_checkIndex_2214a, Cond.static yJ2_checkIndex_2214a, Cond.code yJ2_checkIndex_2214a cJ2_checkIndex_2214a 2 none, Cond.methodLink RJ2 48 yJ2_length_9d52b, Cond.static yJ2_length_9d52b, Cond.code yJ2_length_9d52b cJ2_length_9d52b 1 (some .int), Cond.methodLink RJ2 414 yJ0_checkIndex_df160, Cond.methodLink RJ2 71 yJ2_getChar_3b067]
def wsL_law0_r18 : List Cond := [Cond.static yJ2_getChar_3b067, Cond.code yJ2_getChar_3b067 cJ2_getChar_3b067 2 (some .char), Cond.fieldLink RJ2 44 "java/lang/StringUTF16" "$assertionsDisabled" "Z", Cond.fieldLink RJ2 59 "java/lang/StringUTF16" "HI_BYTE_SHIFT" "I", Cond.fieldLink RJ2 63 "java/lang/StringUTF16" "LO_BYTE_SHIFT" "I", Cond.methodLink RX0 25 yX5_addSign, Cond.instanceMethod yX5_addSign, Cond.selects RX5 yX5_addSign yX5_addSign, Cond.code yX5_addSign cX5_addSign 2 none, Cond.methodLink RX7 253 yX7_writeToken, Cond.instanceMethod yX7_writeToken, Cond.selects RX7 yX7_writeToken yX7_writeToken, Cond.code yX7_writeToken cX7_writeToken 3 none, Cond.methodLink RL 96 yX8_login, Cond.instanceMethod yX8_login, Cond.selects RX8 yX8_login yX8_login, Cond.code yX8_login cX8_login 6 (some .int), Cond.methodLink RX8 238 yX8_isOld, Cond.instanceMethod yX8_isOld, Cond.selects RX8 yX8_isOld yX8_isOld, Cond.code yX8_isOld cX8_isOld 2 (some .boolean), Cond.methodLink RX8 241 yX8_isIdle, Cond.instanceMethod yX8_isIdle, Cond.selects RX8 yX8_isIdle yX8_isIdle]
def wsL_law0_r19 : List Cond := [Cond.code yX8_isIdle cX8_isIdle 2 (some .boolean), Cond.methodLink RX8 244 yX8_newId, Cond.instanceMethod yX8_newId, Cond.selects RX8 yX8_newId yX8_newId, Cond.code yX8_newId cX8_newId 4 (some .long), Cond.constantLong RX8 189 (255), Cond.fieldLink RX8 180 "SessionGateModel" "saidSize" "I", Cond.methodLink RX8 194 yX8_say, Cond.instanceMethod yX8_say, Cond.selects RX8 yX8_say yX8_say, Cond.code yX8_say cX8_say 2 none, Cond.methodLink RX8 197 yX8_seal, Cond.instanceMethod yX8_seal, Cond.selects RX8 yX8_seal yX8_seal, Cond.code yX8_seal cX8_seal 2 none, Cond.fieldLink RX8 173 "SessionGateModel" "messageSize" "I", Cond.methodLink RX8 183 yX8_hashNow, Cond.instanceMethod yX8_hashNow, Cond.selects RX8 yX8_hashNow yX8_hashNow, Cond.code yX8_hashNow cX8_hashNow 4 none, Cond.methodLink RX8 176 yX8_block, Cond.instanceMethod yX8_block, Cond.selects RX8 yX8_block yX8_block, Cond.code yX8_block cX8_block 13 none]
def wsL_law0_r20 : List Cond := [Cond.methodLink RX8 169 yX8_turn, Cond.static yX8_turn, Cond.code yX8_turn cX8_turn 2 (some .int), Cond.methodLink RX8 248 yX8_issue, Cond.instanceMethod yX8_issue, Cond.selects RX8 yX8_issue yX8_issue, Cond.code yX8_issue cX8_issue 4 none, Cond.methodLink RX8 211 yX8_body, Cond.instanceMethod yX8_body, Cond.selects RX8 yX8_body yX8_body, Cond.code yX8_body cX8_body 6 none, Cond.methodLink RX8 207 yX8_sealBody, Cond.instanceMethod yX8_sealBody, Cond.selects RX8 yX8_sealBody yX8_sealBody, Cond.code yX8_sealBody cX8_sealBody 4 none, Cond.methodLink RX8 204 yX8_takeKey, Cond.instanceMethod yX8_takeKey, Cond.selects RX8 yX8_takeKey yX8_takeKey, Cond.code yX8_takeKey cX8_takeKey 3 none, Cond.methodLink RX8 215 yX8_codedAt, Cond.instanceMethod yX8_codedAt, Cond.selects RX8 yX8_codedAt yX8_codedAt, Cond.code yX8_codedAt cX8_codedAt 5 (some .int), Cond.methodLink RX8 200 yX8_signOf]
def wsL_law0_r21 : List Cond := [Cond.static yX8_signOf, Cond.code yX8_signOf cX8_signOf 1 (some .int), Cond.methodLink RX8 218 yX8_token, Cond.instanceMethod yX8_token, Cond.selects RX8 yX8_token yX8_token, Cond.code yX8_token cX8_token 3 none, Cond.methodLink RL 97 yX7_request, Cond.instanceMethod yX7_request, Cond.selects RX7 yX7_request yX7_request, Cond.code yX7_request cX7_request 3 (some .int), Cond.methodLink RX7 152 yX7_judge, Cond.instanceMethod yX7_judge, Cond.selects RX7 yX7_judge yX7_judge, Cond.code yX7_judge cX7_judge 4 (some .int), Cond.methodLink RX7 235 yX0_decodeCookie, Cond.static yX0_decodeCookie, Cond.code yX0_decodeCookie cX0_decodeCookie 6 (some .boolean), Cond.methodLink RX0 29 yX0_isCookieForm, Cond.static yX0_isCookieForm, Cond.code yX0_isCookieForm cX0_isCookieForm 2 (some .boolean), Cond.methodLink RX0 37 yX0_sixBits, Cond.static yX0_sixBits, Cond.code yX0_sixBits cX0_sixBits 1 (some .int), Cond.methodLink RX0 41 yJ0_indexOf_0f7a4]
def wsL_law0_r22 : List Cond := [Cond.instanceMethod yJ0_indexOf_0f7a4, Cond.selects RJ0 yJ0_indexOf_0f7a4 yJ0_indexOf_0f7a4, Cond.code yJ0_indexOf_0f7a4 cJ0_indexOf_0f7a4 2 (some .int), Cond.methodLink RJ0 633 yJ0_indexOf_7cf53, Cond.instanceMethod yJ0_indexOf_7cf53, Cond.selects RJ0 yJ0_indexOf_7cf53 yJ0_indexOf_7cf53, Cond.code yJ0_indexOf_7cf53 cJ0_indexOf_7cf53 3 (some .int), Cond.methodLink RJ0 505 yJ0_length_8abf5, Cond.instanceMethod yJ0_length_8abf5, Cond.selects RJ0 yJ0_length_8abf5 yJ0_length_8abf5, Cond.code yJ0_length_8abf5 cJ0_length_8abf5 1 (some .int), Cond.methodLink RJ0 335 yJ0_coder_7d493, Cond.instanceMethod yJ0_coder_7d493, Cond.selects RJ0 yJ0_coder_7d493 yJ0_coder_7d493, Cond.code yJ0_coder_7d493 cJ0_coder_7d493 1 (some .byte), Cond.methodLink RJ0 637 yJ1_indexOf_4cfef, Cond.static yJ1_indexOf_4cfef, Cond.code yJ1_indexOf_4cfef cJ1_indexOf_4cfef 4 (some .int), Cond.methodLink RJ1 92 Lib.Math.max.name, Cond.static Lib.Math.max.name, Cond.initialized "java/lang/Math", Cond.code Lib.Math.max.name Lib.Math.max.code 2 (some .int), Cond.methodLink RJ1 38 Lib.Math.min.name, Cond.static Lib.Math.min.name]
def wsL_law0_r23 : List Cond := [Cond.code Lib.Math.min.name Lib.Math.min.code 2 (some .int), Cond.methodLink RJ1 88 yJ1_canEncode_9a6ad, Cond.static yJ1_canEncode_9a6ad, Cond.code yJ1_canEncode_9a6ad cJ1_canEncode_9a6ad 1 (some .boolean), Cond.methodLink RJ1 95 yJ1_indexOfChar_4cfef, Cond.static yJ1_indexOfChar_4cfef, Cond.code yJ1_indexOfChar_4cfef cJ1_indexOfChar_4cfef 6 (some .int), Cond.methodLink RJ0 640 yJ2_indexOf_4cfef, Cond.static yJ2_indexOf_4cfef, Cond.code yJ2_indexOf_4cfef cJ2_indexOf_4cfef 4 (some .int), Cond.methodLink RJ2 224 Lib.Math.max.name, Cond.methodLink RJ2 183 Lib.Math.min.name, Cond.constant RJ2 227 (65536), Cond.methodLink RJ2 228 yJ2_indexOfChar_4cfef, Cond.static yJ2_indexOfChar_4cfef, Cond.code yJ2_indexOfChar_4cfef cJ2_indexOfChar_4cfef 4 (some .int), Cond.methodLink RJ2 96 yJ2_checkBoundsBeginEnd_d044e, Cond.static yJ2_checkBoundsBeginEnd_d044e, Cond.code yJ2_checkBoundsBeginEnd_d044e cJ2_checkBoundsBeginEnd_d044e 3 none, Cond.methodLink RJ2 241 yJ0_checkBoundsBeginEnd_23922, Cond.static yJ0_checkBoundsBeginEnd_23922, Cond.code yJ0_checkBoundsBeginEnd_23922 cJ0_checkBoundsBeginEnd_23922 3 none, Cond.methodLink RJ0 1062 yJ3_checkFromToIndex_8c36e, Cond.static yJ3_checkFromToIndex_8c36e]
def wsL_law0_r24 : List Cond := [Cond.code yJ3_checkFromToIndex_8c36e cJ3_checkFromToIndex_8c36e 4 (some .int), Cond.methodLink RJ2 244 yJ2_indexOfCharUnsafe_4cfef, Cond.static yJ2_indexOfCharUnsafe_4cfef, Cond.code yJ2_indexOfCharUnsafe_4cfef cJ2_indexOfCharUnsafe_4cfef 5 (some .int), Cond.methodLink RJ2 232 yJ2_indexOfSupplementary_4cfef, Cond.static yJ2_indexOfSupplementary_4cfef, Cond.code yJ2_indexOfSupplementary_4cfef cJ2_indexOfSupplementary_4cfef 7 (some .int), Cond.methodLink RJ2 164 yJ11_isValidCodePoint_9a6ad, Cond.static yJ11_isValidCodePoint_9a6ad, Cond.initialized RJ11, Cond.code yJ11_isValidCodePoint_9a6ad cJ11_isValidCodePoint_9a6ad 2 (some .boolean), Cond.methodLink RJ2 157 yJ11_highSurrogate_5068e, Cond.static yJ11_highSurrogate_5068e, Cond.code yJ11_highSurrogate_5068e cJ11_highSurrogate_5068e 1 (some .char), Cond.constant RJ11 110 (55232), Cond.methodLink RJ2 161 yJ11_lowSurrogate_5068e, Cond.static yJ11_lowSurrogate_5068e, Cond.code yJ11_lowSurrogate_5068e cJ11_lowSurrogate_5068e 1 (some .char), Cond.constant RJ11 76 (56320), Cond.methodLink RX7 241 yX2_liveKey, Cond.instanceMethod yX2_liveKey, Cond.selects RX2 yX2_liveKey yX2_liveKey, Cond.code yX2_liveKey cX2_liveKey 7 (some (.object "SessionGate$Key")), Cond.methodLink RX2 30 yX2_isLive]
def wsL_law0_r25 : List Cond := [Cond.instanceMethod yX2_isLive, Cond.selects RX2 yX2_isLive yX2_isLive, Cond.code yX2_isLive cX2_isLive 6 (some .boolean), Cond.methodLink RX7 245 yX7_isSealedBy, Cond.instanceMethod yX7_isSealedBy, Cond.selects RX7 yX7_isSealedBy yX7_isSealedBy, Cond.code yX7_isSealedBy cX7_isSealedBy 3 (some .boolean), Cond.methodLink RX7 249 yX7_numberOf, Cond.instanceMethod yX7_numberOf, Cond.selects RX7 yX7_numberOf yX7_numberOf, Cond.code yX7_numberOf cX7_numberOf 5 (some .int), Cond.methodLink RX7 257 yX5_isSameAs, Cond.instanceMethod yX5_isSameAs, Cond.selects RX5 yX5_isSameAs yX5_isSameAs, Cond.code yX5_isSameAs cX5_isSameAs 3 (some .boolean), Cond.methodLink RX7 156 yX7_tally, Cond.instanceMethod yX7_tally, Cond.selects RX7 yX7_tally yX7_tally, Cond.code yX7_tally cX7_tally 2 none, Cond.methodLink RL 101 yX8_request, Cond.instanceMethod yX8_request, Cond.selects RX8 yX8_request yX8_request, Cond.code yX8_request cX8_request 3 (some .int), Cond.fieldLink RX8 268 "SessionGateModel" "refusedMany" "I"]
def wsL_law0_r26 : List Cond := [Cond.fieldLink RX8 271 "SessionGateModel" "letIn" "I", Cond.fieldLink RX8 258 "SessionGateModel" "keyAt" "I", Cond.fieldLink RX8 274 "SessionGateModel" "renewed" "I", Cond.methodLink RX8 264 yX8_look, Cond.instanceMethod yX8_look, Cond.selects RX8 yX8_look yX8_look, Cond.code yX8_look cX8_look 7 (some .int), Cond.methodLink RX8 254 yX8_isForm, Cond.instanceMethod yX8_isForm, Cond.selects RX8 yX8_isForm yX8_isForm, Cond.code yX8_isForm cX8_isForm 5 (some .boolean), Cond.methodLink RX8 251 yX8_valueOf, Cond.static yX8_valueOf, Cond.code yX8_valueOf cX8_valueOf 1 (some .int), Cond.methodLink RX8 261 yX8_isLive, Cond.instanceMethod yX8_isLive, Cond.selects RX8 yX8_isLive yX8_isLive, Cond.code yX8_isLive cX8_isLive 2 (some .boolean), Cond.methodLink RL 102 yX7_logout, Cond.instanceMethod yX7_logout, Cond.selects RX7 yX7_logout yX7_logout, Cond.code yX7_logout cX7_logout 2 (some .int), Cond.methodLink RL 105 yX8_logout, Cond.instanceMethod yX8_logout]
def wsL_law0_r27 : List Cond := [Cond.selects RX8 yX8_logout yX8_logout, Cond.code yX8_logout cX8_logout 2 (some .int), Cond.methodLink RL 106 yL_revoke, Cond.static yL_revoke, Cond.codeWith yL_revoke cL_revoke 4 (some .int) [(0, 9, 12, 13)], Cond.methodLink RL 27 yX7_revoke, Cond.instanceMethod yX7_revoke, Cond.selects RX7 yX7_revoke yX7_revoke, Cond.code yX7_revoke cX7_revoke 4 (some .int), Cond.methodLink RL 109 yX8_revoke, Cond.instanceMethod yX8_revoke, Cond.selects RX8 yX8_revoke yX8_revoke, Cond.code yX8_revoke cX8_revoke 4 (some .int), Cond.methodLink RL 110 yL_type, Cond.static yL_type, Cond.codeWith yL_type cL_type 8 (some .int) [(0, 16, 19, 13), (0, 16, 23, 35)], Cond.classLink RL 35 "java/lang/IllegalStateException", Cond.methodLink RL 31 yX7_type, Cond.instanceMethod yX7_type, Cond.selects RX7 yX7_type yX7_type, Cond.code yX7_type cX7_type 8 (some .int), Cond.classLink RX7 184 "java/lang/IllegalStateException", Cond.initialized "java/lang/IllegalStateException", Cond.methodLink RX7 170 yX7_isText]
def wsL_law0_r28 : List Cond := [Cond.static yX7_isText, Cond.code yX7_isText cX7_isText 1 (some .boolean), Cond.methodLink RX7 173 yX7_textOf, Cond.instanceMethod yX7_textOf, Cond.selects RX7 yX7_textOf yX7_textOf, Cond.code yX7_textOf cX7_textOf 2 (some (.object "SessionGate$Text")), Cond.methodLink RX7 177 yX7_signsIn, Cond.static yX7_signsIn, Cond.code yX7_signsIn cX7_signsIn 3 (some .int), Cond.methodLink RX7 271 yX7_byteOf, Cond.methodLink RX7 187 yX5_addSigns, Cond.instanceMethod yX5_addSigns, Cond.selects RX5 yX5_addSigns yX5_addSigns, Cond.code yX5_addSigns cX5_addSigns 4 none, Cond.methodLink RX5 23 yX5_addSign, Cond.methodLink RL 113 yX8_type, Cond.instanceMethod yX8_type, Cond.selects RX8 yX8_type yX8_type, Cond.code yX8_type cX8_type 8 (some .int), Cond.methodLink RX8 277 yX8_many, Cond.static yX8_many, Cond.code yX8_many cX8_many 1 (some .int), Cond.methodLink RX8 280 yX8_typed, Cond.instanceMethod yX8_typed]
def wsL_law0_r29 : List Cond := [Cond.selects RX8 yX8_typed yX8_typed, Cond.code yX8_typed cX8_typed 7 (some .int), Cond.methodLink RL 114 yL_erase, Cond.static yL_erase, Cond.codeWith yL_erase cL_erase 4 (some .int) [(0, 9, 12, 13)], Cond.methodLink RL 37 yX7_erase, Cond.instanceMethod yX7_erase, Cond.selects RX7 yX7_erase yX7_erase, Cond.code yX7_erase cX7_erase 4 (some .int), Cond.methodLink RL 116 yX8_erase, Cond.instanceMethod yX8_erase, Cond.selects RX8 yX8_erase yX8_erase, Cond.code yX8_erase cX8_erase 3 (some .int), Cond.methodLink RL 117 yL_put, Cond.static yL_put, Cond.codeWith yL_put cL_put 6 (some .int) [(0, 12, 15, 13), (0, 12, 19, 43)], Cond.classLink RL 43 "java/lang/IndexOutOfBoundsException", Cond.methodLink RL 40 yX7_put, Cond.instanceMethod yX7_put, Cond.selects RX7 yX7_put yX7_put, Cond.code yX7_put cX7_put 6 (some .int), Cond.classLink RX7 193 "java/lang/IndexOutOfBoundsException", Cond.initialized "java/lang/IndexOutOfBoundsException", Cond.methodLink RX7 190 yX5_has]
def wsL_law0_r30 : List Cond := [Cond.instanceMethod yX5_has, Cond.selects RX5 yX5_has yX5_has, Cond.code yX5_has cX5_has 2 (some .boolean), Cond.methodLink RL 119 yX8_put, Cond.instanceMethod yX8_put, Cond.selects RX8 yX8_put yX8_put, Cond.code yX8_put cX8_put 6 (some .int), Cond.methodLink RL 120 yL_sign, Cond.static yL_sign, Cond.codeWith yL_sign cL_sign 5 (some .int) [(0, 10, 13, 13)], Cond.methodLink RL 45 yX7_sign, Cond.instanceMethod yX7_sign, Cond.selects RX7 yX7_sign yX7_sign, Cond.code yX7_sign cX7_sign 4 (some .int), Cond.methodLink RL 123 yX8_sign, Cond.instanceMethod yX8_sign, Cond.selects RX8 yX8_sign yX8_sign, Cond.code yX8_sign cX8_sign 3 (some .int), Cond.methodLink RL 124 yL_session, Cond.static yL_session, Cond.codeWith yL_session cL_session 5 (some .int) [(0, 9, 12, 13)], Cond.methodLink RL 49 yX7_session, Cond.instanceMethod yX7_session, Cond.selects RX7 yX7_session yX7_session]
def wsL_law0_r31 : List Cond := [Cond.code yX7_session cX7_session 4 (some .long), Cond.constantLong RX7 199 (-1), Cond.methodLink RL 126 yX8_session, Cond.instanceMethod yX8_session, Cond.selects RX8 yX8_session yX8_session, Cond.code yX8_session cX8_session 3 (some .long), Cond.constantLong RX8 284 (3), Cond.constantLong RX8 286 (-1), Cond.methodLink RL 127 yL_count, Cond.static yL_count, Cond.codeWith yL_count cL_count 4 (some .int) [(0, 9, 12, 13)], Cond.methodLink RL 53 yX7_count, Cond.instanceMethod yX7_count, Cond.selects RX7 yX7_count yX7_count, Cond.code yX7_count cX7_count 2 (some .int), Cond.methodLink RX7 207 yX7_openSessions, Cond.instanceMethod yX7_openSessions, Cond.selects RX7 yX7_openSessions yX7_openSessions, Cond.code yX7_openSessions cX7_openSessions 3 (some .int), Cond.methodLink RX7 210 yX2_liveOnes, Cond.instanceMethod yX2_liveOnes, Cond.selects RX2 yX2_liveOnes yX2_liveOnes, Cond.code yX2_liveOnes cX2_liveOnes 7 (some .int), Cond.methodLink RL 129 yX8_count]
def wsL_law0_r32 : List Cond := [Cond.instanceMethod yX8_count, Cond.selects RX8 yX8_count yX8_count, Cond.code yX8_count cX8_count 4 (some .int), Cond.constantLong RX8 288 (6), Cond.methodLink RL 130 yL_octet, Cond.static yL_octet, Cond.codeWith yL_octet cL_octet 4 (some .int) [(0, 9, 12, 13)], Cond.methodLink RL 56 yX7_octet, Cond.instanceMethod yX7_octet, Cond.selects RX7 yX7_octet yX7_octet, Cond.code yX7_octet cX7_octet 2 (some .int), Cond.methodLink RL 132 yX8_octet, Cond.instanceMethod yX8_octet, Cond.selects RX8 yX8_octet yX8_octet, Cond.code yX8_octet cX8_octet 3 (some .int), Cond.constantLong RX8 290 (31)]
def wsL_law0 : List Cond := (wsL_law0_r1 ++ (wsL_law0_r2 ++ (wsL_law0_r3 ++ (wsL_law0_r4 ++ (wsL_law0_r5 ++ (wsL_law0_r6 ++ (wsL_law0_r7 ++ (wsL_law0_r8 ++ (wsL_law0_r9 ++ (wsL_law0_r10 ++ (wsL_law0_r11 ++ (wsL_law0_r12 ++ (wsL_law0_r13 ++ (wsL_law0_r14 ++ (wsL_law0_r15 ++ (wsL_law0_r16 ++ (wsL_law0_r17 ++ (wsL_law0_r18 ++ (wsL_law0_r19 ++ (wsL_law0_r20 ++ (wsL_law0_r21 ++ (wsL_law0_r22 ++ (wsL_law0_r23 ++ (wsL_law0_r24 ++ (wsL_law0_r25 ++ (wsL_law0_r26 ++ (wsL_law0_r27 ++ (wsL_law0_r28 ++ (wsL_law0_r29 ++ (wsL_law0_r30 ++ (wsL_law0_r31 ++ wsL_law0_r32))))))))))))))))))))))))))))))) ++ wsX70 ++ wsX80 ++ wsX30 ++ wsX20 ++ wsX50 ++ wsX60 ++ wsX40 ++ wsX10 ++ ([] : List Cond)
def wsL_law : List Cond := wsL_law0 ++ (vx_at0 RX7 99 "java/lang/IllegalArgumentException" ["java/lang/RuntimeException", "java/lang/Exception"]).filter goodWord ++ (vx_at0 RX7 186 "java/lang/IllegalStateException" ["java/lang/RuntimeException", "java/lang/Exception"]).filter goodWord ++ (vx_at0 RX7 195 "java/lang/IndexOutOfBoundsException" ["java/lang/RuntimeException", "java/lang/Exception"]).filter goodWord
theorem inlX1 : ∀ w ∈ wsX10, w ∈ wsL_law := fun _ h => List.mem_append_left _ (List.mem_append_left _ (List.mem_append_left _ (List.mem_append_left _ (List.mem_append_right _ h))))
theorem inlX2 : ∀ w ∈ wsX20, w ∈ wsL_law := fun _ h => List.mem_append_left _ (List.mem_append_left _ (List.mem_append_left _ (List.mem_append_left _ (List.mem_append_left _ (List.mem_append_left _ (List.mem_append_left _ (List.mem_append_left _ (List.mem_append_right _ h))))))))
theorem inlX3 : ∀ w ∈ wsX30, w ∈ wsL_law := fun _ h => List.mem_append_left _ (List.mem_append_left _ (List.mem_append_left _ (List.mem_append_left _ (List.mem_append_left _ (List.mem_append_left _ (List.mem_append_left _ (List.mem_append_left _ (List.mem_append_left _ (List.mem_append_right _ h)))))))))
theorem inlX4 : ∀ w ∈ wsX40, w ∈ wsL_law := fun _ h => List.mem_append_left _ (List.mem_append_left _ (List.mem_append_left _ (List.mem_append_left _ (List.mem_append_left _ (List.mem_append_right _ h)))))
theorem inlX5 : ∀ w ∈ wsX50, w ∈ wsL_law := fun _ h => List.mem_append_left _ (List.mem_append_left _ (List.mem_append_left _ (List.mem_append_left _ (List.mem_append_left _ (List.mem_append_left _ (List.mem_append_left _ (List.mem_append_right _ h)))))))
theorem inlX6 : ∀ w ∈ wsX60, w ∈ wsL_law := fun _ h => List.mem_append_left _ (List.mem_append_left _ (List.mem_append_left _ (List.mem_append_left _ (List.mem_append_left _ (List.mem_append_left _ (List.mem_append_right _ h))))))
theorem inlX7 : ∀ w ∈ wsX70, w ∈ wsL_law := fun _ h => List.mem_append_left _ (List.mem_append_left _ (List.mem_append_left _ (List.mem_append_left _ (List.mem_append_left _ (List.mem_append_left _ (List.mem_append_left _ (List.mem_append_left _ (List.mem_append_left _ (List.mem_append_left _ (List.mem_append_left _ (List.mem_append_right _ h)))))))))))
theorem inlX8 : ∀ w ∈ wsX80, w ∈ wsL_law := fun _ h => List.mem_append_left _ (List.mem_append_left _ (List.mem_append_left _ (List.mem_append_left _ (List.mem_append_left _ (List.mem_append_left _ (List.mem_append_left _ (List.mem_append_left _ (List.mem_append_left _ (List.mem_append_left _ (List.mem_append_right _ h))))))))))
abbrev vwCl : List vw_C := [(RX1, TX1, 3), (RX2, TX2, 3), (RX3, TX3, 4), (RX4, TX4, 5), (RX5, TX5, 2), (RX6, TX6, 3), (RX7, TX7, 19), (RX8, TX8, 36)]
end
section
abbrev BIG : List Cond := wsL_law
theorem goodBIG : GoodIn BIG BIG := goodIn_sub (fun _ h => h) (by decide +kernel)
theorem bgr_1 {w : Cond} (h : w ∈ wsL_law0_r1) : w ∈ BIG := List.mem_append_left _ (List.mem_append_left _ (List.mem_append_left _ (List.mem_append_left _ (List.mem_append_left _ (List.mem_append_left _ (List.mem_append_left _ (List.mem_append_left _ (List.mem_append_left _ (List.mem_append_left _ (List.mem_append_left _ (List.mem_append_left _ (List.mem_append_left _ h))))))))))))
theorem bgr_2 {w : Cond} (h : w ∈ wsL_law0_r2) : w ∈ BIG := List.mem_append_left _ (List.mem_append_left _ (List.mem_append_left _ (List.mem_append_left _ (List.mem_append_left _ (List.mem_append_left _ (List.mem_append_left _ (List.mem_append_left _ (List.mem_append_left _ (List.mem_append_left _ (List.mem_append_left _ (List.mem_append_left _ (List.mem_append_right _ (List.mem_append_left _ h)))))))))))))
theorem bgr_3 {w : Cond} (h : w ∈ wsL_law0_r3) : w ∈ BIG := List.mem_append_left _ (List.mem_append_left _ (List.mem_append_left _ (List.mem_append_left _ (List.mem_append_left _ (List.mem_append_left _ (List.mem_append_left _ (List.mem_append_left _ (List.mem_append_left _ (List.mem_append_left _ (List.mem_append_left _ (List.mem_append_left _ (List.mem_append_right _ (List.mem_append_right _ (List.mem_append_left _ h))))))))))))))
theorem bgr_4 {w : Cond} (h : w ∈ wsL_law0_r4) : w ∈ BIG := List.mem_append_left _ (List.mem_append_left _ (List.mem_append_left _ (List.mem_append_left _ (List.mem_append_left _ (List.mem_append_left _ (List.mem_append_left _ (List.mem_append_left _ (List.mem_append_left _ (List.mem_append_left _ (List.mem_append_left _ (List.mem_append_left _ (List.mem_append_right _ (List.mem_append_right _ (List.mem_append_right _ (List.mem_append_left _ h)))))))))))))))
theorem bgr_5 {w : Cond} (h : w ∈ wsL_law0_r5) : w ∈ BIG := List.mem_append_left _ (List.mem_append_left _ (List.mem_append_left _ (List.mem_append_left _ (List.mem_append_left _ (List.mem_append_left _ (List.mem_append_left _ (List.mem_append_left _ (List.mem_append_left _ (List.mem_append_left _ (List.mem_append_left _ (List.mem_append_left _ (List.mem_append_right _ (List.mem_append_right _ (List.mem_append_right _ (List.mem_append_right _ (List.mem_append_left _ h))))))))))))))))
theorem bgr_6 {w : Cond} (h : w ∈ wsL_law0_r6) : w ∈ BIG := List.mem_append_left _ (List.mem_append_left _ (List.mem_append_left _ (List.mem_append_left _ (List.mem_append_left _ (List.mem_append_left _ (List.mem_append_left _ (List.mem_append_left _ (List.mem_append_left _ (List.mem_append_left _ (List.mem_append_left _ (List.mem_append_left _ (List.mem_append_right _ (List.mem_append_right _ (List.mem_append_right _ (List.mem_append_right _ (List.mem_append_right _ (List.mem_append_left _ h)))))))))))))))))
theorem bgr_7 {w : Cond} (h : w ∈ wsL_law0_r7) : w ∈ BIG := List.mem_append_left _ (List.mem_append_left _ (List.mem_append_left _ (List.mem_append_left _ (List.mem_append_left _ (List.mem_append_left _ (List.mem_append_left _ (List.mem_append_left _ (List.mem_append_left _ (List.mem_append_left _ (List.mem_append_left _ (List.mem_append_left _ (List.mem_append_right _ (List.mem_append_right _ (List.mem_append_right _ (List.mem_append_right _ (List.mem_append_right _ (List.mem_append_right _ (List.mem_append_left _ h))))))))))))))))))
theorem bgr_8 {w : Cond} (h : w ∈ wsL_law0_r8) : w ∈ BIG := List.mem_append_left _ (List.mem_append_left _ (List.mem_append_left _ (List.mem_append_left _ (List.mem_append_left _ (List.mem_append_left _ (List.mem_append_left _ (List.mem_append_left _ (List.mem_append_left _ (List.mem_append_left _ (List.mem_append_left _ (List.mem_append_left _ (List.mem_append_right _ (List.mem_append_right _ (List.mem_append_right _ (List.mem_append_right _ (List.mem_append_right _ (List.mem_append_right _ (List.mem_append_right _ (List.mem_append_left _ h)))))))))))))))))))
theorem bgr_9 {w : Cond} (h : w ∈ wsL_law0_r9) : w ∈ BIG := List.mem_append_left _ (List.mem_append_left _ (List.mem_append_left _ (List.mem_append_left _ (List.mem_append_left _ (List.mem_append_left _ (List.mem_append_left _ (List.mem_append_left _ (List.mem_append_left _ (List.mem_append_left _ (List.mem_append_left _ (List.mem_append_left _ (List.mem_append_right _ (List.mem_append_right _ (List.mem_append_right _ (List.mem_append_right _ (List.mem_append_right _ (List.mem_append_right _ (List.mem_append_right _ (List.mem_append_right _ (List.mem_append_left _ h))))))))))))))))))))
theorem bgr_10 {w : Cond} (h : w ∈ wsL_law0_r10) : w ∈ BIG := List.mem_append_left _ (List.mem_append_left _ (List.mem_append_left _ (List.mem_append_left _ (List.mem_append_left _ (List.mem_append_left _ (List.mem_append_left _ (List.mem_append_left _ (List.mem_append_left _ (List.mem_append_left _ (List.mem_append_left _ (List.mem_append_left _ (List.mem_append_right _ (List.mem_append_right _ (List.mem_append_right _ (List.mem_append_right _ (List.mem_append_right _ (List.mem_append_right _ (List.mem_append_right _ (List.mem_append_right _ (List.mem_append_right _ (List.mem_append_left _ h)))))))))))))))))))))
theorem bgr_11 {w : Cond} (h : w ∈ wsL_law0_r11) : w ∈ BIG := List.mem_append_left _ (List.mem_append_left _ (List.mem_append_left _ (List.mem_append_left _ (List.mem_append_left _ (List.mem_append_left _ (List.mem_append_left _ (List.mem_append_left _ (List.mem_append_left _ (List.mem_append_left _ (List.mem_append_left _ (List.mem_append_left _ (List.mem_append_right _ (List.mem_append_right _ (List.mem_append_right _ (List.mem_append_right _ (List.mem_append_right _ (List.mem_append_right _ (List.mem_append_right _ (List.mem_append_right _ (List.mem_append_right _ (List.mem_append_right _ (List.mem_append_left _ h))))))))))))))))))))))
theorem bgr_12 {w : Cond} (h : w ∈ wsL_law0_r12) : w ∈ BIG := List.mem_append_left _ (List.mem_append_left _ (List.mem_append_left _ (List.mem_append_left _ (List.mem_append_left _ (List.mem_append_left _ (List.mem_append_left _ (List.mem_append_left _ (List.mem_append_left _ (List.mem_append_left _ (List.mem_append_left _ (List.mem_append_left _ (List.mem_append_right _ (List.mem_append_right _ (List.mem_append_right _ (List.mem_append_right _ (List.mem_append_right _ (List.mem_append_right _ (List.mem_append_right _ (List.mem_append_right _ (List.mem_append_right _ (List.mem_append_right _ (List.mem_append_right _ (List.mem_append_left _ h)))))))))))))))))))))))
theorem bgr_13 {w : Cond} (h : w ∈ wsL_law0_r13) : w ∈ BIG := List.mem_append_left _ (List.mem_append_left _ (List.mem_append_left _ (List.mem_append_left _ (List.mem_append_left _ (List.mem_append_left _ (List.mem_append_left _ (List.mem_append_left _ (List.mem_append_left _ (List.mem_append_left _ (List.mem_append_left _ (List.mem_append_left _ (List.mem_append_right _ (List.mem_append_right _ (List.mem_append_right _ (List.mem_append_right _ (List.mem_append_right _ (List.mem_append_right _ (List.mem_append_right _ (List.mem_append_right _ (List.mem_append_right _ (List.mem_append_right _ (List.mem_append_right _ (List.mem_append_right _ (List.mem_append_left _ h))))))))))))))))))))))))
theorem bgr_14 {w : Cond} (h : w ∈ wsL_law0_r14) : w ∈ BIG := List.mem_append_left _ (List.mem_append_left _ (List.mem_append_left _ (List.mem_append_left _ (List.mem_append_left _ (List.mem_append_left _ (List.mem_append_left _ (List.mem_append_left _ (List.mem_append_left _ (List.mem_append_left _ (List.mem_append_left _ (List.mem_append_left _ (List.mem_append_right _ (List.mem_append_right _ (List.mem_append_right _ (List.mem_append_right _ (List.mem_append_right _ (List.mem_append_right _ (List.mem_append_right _ (List.mem_append_right _ (List.mem_append_right _ (List.mem_append_right _ (List.mem_append_right _ (List.mem_append_right _ (List.mem_append_right _ (List.mem_append_left _ h)))))))))))))))))))))))))
theorem bgr_15 {w : Cond} (h : w ∈ wsL_law0_r15) : w ∈ BIG := List.mem_append_left _ (List.mem_append_left _ (List.mem_append_left _ (List.mem_append_left _ (List.mem_append_left _ (List.mem_append_left _ (List.mem_append_left _ (List.mem_append_left _ (List.mem_append_left _ (List.mem_append_left _ (List.mem_append_left _ (List.mem_append_left _ (List.mem_append_right _ (List.mem_append_right _ (List.mem_append_right _ (List.mem_append_right _ (List.mem_append_right _ (List.mem_append_right _ (List.mem_append_right _ (List.mem_append_right _ (List.mem_append_right _ (List.mem_append_right _ (List.mem_append_right _ (List.mem_append_right _ (List.mem_append_right _ (List.mem_append_right _ (List.mem_append_left _ h))))))))))))))))))))))))))
theorem bgr_16 {w : Cond} (h : w ∈ wsL_law0_r16) : w ∈ BIG := List.mem_append_left _ (List.mem_append_left _ (List.mem_append_left _ (List.mem_append_left _ (List.mem_append_left _ (List.mem_append_left _ (List.mem_append_left _ (List.mem_append_left _ (List.mem_append_left _ (List.mem_append_left _ (List.mem_append_left _ (List.mem_append_left _ (List.mem_append_right _ (List.mem_append_right _ (List.mem_append_right _ (List.mem_append_right _ (List.mem_append_right _ (List.mem_append_right _ (List.mem_append_right _ (List.mem_append_right _ (List.mem_append_right _ (List.mem_append_right _ (List.mem_append_right _ (List.mem_append_right _ (List.mem_append_right _ (List.mem_append_right _ (List.mem_append_right _ (List.mem_append_left _ h)))))))))))))))))))))))))))
theorem bgr_17 {w : Cond} (h : w ∈ wsL_law0_r17) : w ∈ BIG := List.mem_append_left _ (List.mem_append_left _ (List.mem_append_left _ (List.mem_append_left _ (List.mem_append_left _ (List.mem_append_left _ (List.mem_append_left _ (List.mem_append_left _ (List.mem_append_left _ (List.mem_append_left _ (List.mem_append_left _ (List.mem_append_left _ (List.mem_append_right _ (List.mem_append_right _ (List.mem_append_right _ (List.mem_append_right _ (List.mem_append_right _ (List.mem_append_right _ (List.mem_append_right _ (List.mem_append_right _ (List.mem_append_right _ (List.mem_append_right _ (List.mem_append_right _ (List.mem_append_right _ (List.mem_append_right _ (List.mem_append_right _ (List.mem_append_right _ (List.mem_append_right _ (List.mem_append_left _ h))))))))))))))))))))))))))))
theorem bgr_18 {w : Cond} (h : w ∈ wsL_law0_r18) : w ∈ BIG := List.mem_append_left _ (List.mem_append_left _ (List.mem_append_left _ (List.mem_append_left _ (List.mem_append_left _ (List.mem_append_left _ (List.mem_append_left _ (List.mem_append_left _ (List.mem_append_left _ (List.mem_append_left _ (List.mem_append_left _ (List.mem_append_left _ (List.mem_append_right _ (List.mem_append_right _ (List.mem_append_right _ (List.mem_append_right _ (List.mem_append_right _ (List.mem_append_right _ (List.mem_append_right _ (List.mem_append_right _ (List.mem_append_right _ (List.mem_append_right _ (List.mem_append_right _ (List.mem_append_right _ (List.mem_append_right _ (List.mem_append_right _ (List.mem_append_right _ (List.mem_append_right _ (List.mem_append_right _ (List.mem_append_left _ h)))))))))))))))))))))))))))))
theorem bgr_19 {w : Cond} (h : w ∈ wsL_law0_r19) : w ∈ BIG := List.mem_append_left _ (List.mem_append_left _ (List.mem_append_left _ (List.mem_append_left _ (List.mem_append_left _ (List.mem_append_left _ (List.mem_append_left _ (List.mem_append_left _ (List.mem_append_left _ (List.mem_append_left _ (List.mem_append_left _ (List.mem_append_left _ (List.mem_append_right _ (List.mem_append_right _ (List.mem_append_right _ (List.mem_append_right _ (List.mem_append_right _ (List.mem_append_right _ (List.mem_append_right _ (List.mem_append_right _ (List.mem_append_right _ (List.mem_append_right _ (List.mem_append_right _ (List.mem_append_right _ (List.mem_append_right _ (List.mem_append_right _ (List.mem_append_right _ (List.mem_append_right _ (List.mem_append_right _ (List.mem_append_right _ (List.mem_append_left _ h))))))))))))))))))))))))))))))
theorem bgr_20 {w : Cond} (h : w ∈ wsL_law0_r20) : w ∈ BIG := List.mem_append_left _ (List.mem_append_left _ (List.mem_append_left _ (List.mem_append_left _ (List.mem_append_left _ (List.mem_append_left _ (List.mem_append_left _ (List.mem_append_left _ (List.mem_append_left _ (List.mem_append_left _ (List.mem_append_left _ (List.mem_append_left _ (List.mem_append_right _ (List.mem_append_right _ (List.mem_append_right _ (List.mem_append_right _ (List.mem_append_right _ (List.mem_append_right _ (List.mem_append_right _ (List.mem_append_right _ (List.mem_append_right _ (List.mem_append_right _ (List.mem_append_right _ (List.mem_append_right _ (List.mem_append_right _ (List.mem_append_right _ (List.mem_append_right _ (List.mem_append_right _ (List.mem_append_right _ (List.mem_append_right _ (List.mem_append_right _ (List.mem_append_left _ h)))))))))))))))))))))))))))))))
theorem bgr_21 {w : Cond} (h : w ∈ wsL_law0_r21) : w ∈ BIG := List.mem_append_left _ (List.mem_append_left _ (List.mem_append_left _ (List.mem_append_left _ (List.mem_append_left _ (List.mem_append_left _ (List.mem_append_left _ (List.mem_append_left _ (List.mem_append_left _ (List.mem_append_left _ (List.mem_append_left _ (List.mem_append_left _ (List.mem_append_right _ (List.mem_append_right _ (List.mem_append_right _ (List.mem_append_right _ (List.mem_append_right _ (List.mem_append_right _ (List.mem_append_right _ (List.mem_append_right _ (List.mem_append_right _ (List.mem_append_right _ (List.mem_append_right _ (List.mem_append_right _ (List.mem_append_right _ (List.mem_append_right _ (List.mem_append_right _ (List.mem_append_right _ (List.mem_append_right _ (List.mem_append_right _ (List.mem_append_right _ (List.mem_append_right _ (List.mem_append_left _ h))))))))))))))))))))))))))))))))
theorem bgr_22 {w : Cond} (h : w ∈ wsL_law0_r22) : w ∈ BIG := List.mem_append_left _ (List.mem_append_left _ (List.mem_append_left _ (List.mem_append_left _ (List.mem_append_left _ (List.mem_append_left _ (List.mem_append_left _ (List.mem_append_left _ (List.mem_append_left _ (List.mem_append_left _ (List.mem_append_left _ (List.mem_append_left _ (List.mem_append_right _ (List.mem_append_right _ (List.mem_append_right _ (List.mem_append_right _ (List.mem_append_right _ (List.mem_append_right _ (List.mem_append_right _ (List.mem_append_right _ (List.mem_append_right _ (List.mem_append_right _ (List.mem_append_right _ (List.mem_append_right _ (List.mem_append_right _ (List.mem_append_right _ (List.mem_append_right _ (List.mem_append_right _ (List.mem_append_right _ (List.mem_append_right _ (List.mem_append_right _ (List.mem_append_right _ (List.mem_append_right _ (List.mem_append_left _ h)))))))))))))))))))))))))))))))))
theorem bgr_23 {w : Cond} (h : w ∈ wsL_law0_r23) : w ∈ BIG := List.mem_append_left _ (List.mem_append_left _ (List.mem_append_left _ (List.mem_append_left _ (List.mem_append_left _ (List.mem_append_left _ (List.mem_append_left _ (List.mem_append_left _ (List.mem_append_left _ (List.mem_append_left _ (List.mem_append_left _ (List.mem_append_left _ (List.mem_append_right _ (List.mem_append_right _ (List.mem_append_right _ (List.mem_append_right _ (List.mem_append_right _ (List.mem_append_right _ (List.mem_append_right _ (List.mem_append_right _ (List.mem_append_right _ (List.mem_append_right _ (List.mem_append_right _ (List.mem_append_right _ (List.mem_append_right _ (List.mem_append_right _ (List.mem_append_right _ (List.mem_append_right _ (List.mem_append_right _ (List.mem_append_right _ (List.mem_append_right _ (List.mem_append_right _ (List.mem_append_right _ (List.mem_append_right _ (List.mem_append_left _ h))))))))))))))))))))))))))))))))))
theorem bgr_24 {w : Cond} (h : w ∈ wsL_law0_r24) : w ∈ BIG := List.mem_append_left _ (List.mem_append_left _ (List.mem_append_left _ (List.mem_append_left _ (List.mem_append_left _ (List.mem_append_left _ (List.mem_append_left _ (List.mem_append_left _ (List.mem_append_left _ (List.mem_append_left _ (List.mem_append_left _ (List.mem_append_left _ (List.mem_append_right _ (List.mem_append_right _ (List.mem_append_right _ (List.mem_append_right _ (List.mem_append_right _ (List.mem_append_right _ (List.mem_append_right _ (List.mem_append_right _ (List.mem_append_right _ (List.mem_append_right _ (List.mem_append_right _ (List.mem_append_right _ (List.mem_append_right _ (List.mem_append_right _ (List.mem_append_right _ (List.mem_append_right _ (List.mem_append_right _ (List.mem_append_right _ (List.mem_append_right _ (List.mem_append_right _ (List.mem_append_right _ (List.mem_append_right _ (List.mem_append_right _ (List.mem_append_left _ h)))))))))))))))))))))))))))))))))))
theorem bgr_25 {w : Cond} (h : w ∈ wsL_law0_r25) : w ∈ BIG := List.mem_append_left _ (List.mem_append_left _ (List.mem_append_left _ (List.mem_append_left _ (List.mem_append_left _ (List.mem_append_left _ (List.mem_append_left _ (List.mem_append_left _ (List.mem_append_left _ (List.mem_append_left _ (List.mem_append_left _ (List.mem_append_left _ (List.mem_append_right _ (List.mem_append_right _ (List.mem_append_right _ (List.mem_append_right _ (List.mem_append_right _ (List.mem_append_right _ (List.mem_append_right _ (List.mem_append_right _ (List.mem_append_right _ (List.mem_append_right _ (List.mem_append_right _ (List.mem_append_right _ (List.mem_append_right _ (List.mem_append_right _ (List.mem_append_right _ (List.mem_append_right _ (List.mem_append_right _ (List.mem_append_right _ (List.mem_append_right _ (List.mem_append_right _ (List.mem_append_right _ (List.mem_append_right _ (List.mem_append_right _ (List.mem_append_right _ (List.mem_append_left _ h))))))))))))))))))))))))))))))))))))
theorem bgr_26 {w : Cond} (h : w ∈ wsL_law0_r26) : w ∈ BIG := List.mem_append_left _ (List.mem_append_left _ (List.mem_append_left _ (List.mem_append_left _ (List.mem_append_left _ (List.mem_append_left _ (List.mem_append_left _ (List.mem_append_left _ (List.mem_append_left _ (List.mem_append_left _ (List.mem_append_left _ (List.mem_append_left _ (List.mem_append_right _ (List.mem_append_right _ (List.mem_append_right _ (List.mem_append_right _ (List.mem_append_right _ (List.mem_append_right _ (List.mem_append_right _ (List.mem_append_right _ (List.mem_append_right _ (List.mem_append_right _ (List.mem_append_right _ (List.mem_append_right _ (List.mem_append_right _ (List.mem_append_right _ (List.mem_append_right _ (List.mem_append_right _ (List.mem_append_right _ (List.mem_append_right _ (List.mem_append_right _ (List.mem_append_right _ (List.mem_append_right _ (List.mem_append_right _ (List.mem_append_right _ (List.mem_append_right _ (List.mem_append_right _ (List.mem_append_left _ h)))))))))))))))))))))))))))))))))))))
theorem bgr_27 {w : Cond} (h : w ∈ wsL_law0_r27) : w ∈ BIG := List.mem_append_left _ (List.mem_append_left _ (List.mem_append_left _ (List.mem_append_left _ (List.mem_append_left _ (List.mem_append_left _ (List.mem_append_left _ (List.mem_append_left _ (List.mem_append_left _ (List.mem_append_left _ (List.mem_append_left _ (List.mem_append_left _ (List.mem_append_right _ (List.mem_append_right _ (List.mem_append_right _ (List.mem_append_right _ (List.mem_append_right _ (List.mem_append_right _ (List.mem_append_right _ (List.mem_append_right _ (List.mem_append_right _ (List.mem_append_right _ (List.mem_append_right _ (List.mem_append_right _ (List.mem_append_right _ (List.mem_append_right _ (List.mem_append_right _ (List.mem_append_right _ (List.mem_append_right _ (List.mem_append_right _ (List.mem_append_right _ (List.mem_append_right _ (List.mem_append_right _ (List.mem_append_right _ (List.mem_append_right _ (List.mem_append_right _ (List.mem_append_right _ (List.mem_append_right _ (List.mem_append_left _ h))))))))))))))))))))))))))))))))))))))
theorem bgr_28 {w : Cond} (h : w ∈ wsL_law0_r28) : w ∈ BIG := List.mem_append_left _ (List.mem_append_left _ (List.mem_append_left _ (List.mem_append_left _ (List.mem_append_left _ (List.mem_append_left _ (List.mem_append_left _ (List.mem_append_left _ (List.mem_append_left _ (List.mem_append_left _ (List.mem_append_left _ (List.mem_append_left _ (List.mem_append_right _ (List.mem_append_right _ (List.mem_append_right _ (List.mem_append_right _ (List.mem_append_right _ (List.mem_append_right _ (List.mem_append_right _ (List.mem_append_right _ (List.mem_append_right _ (List.mem_append_right _ (List.mem_append_right _ (List.mem_append_right _ (List.mem_append_right _ (List.mem_append_right _ (List.mem_append_right _ (List.mem_append_right _ (List.mem_append_right _ (List.mem_append_right _ (List.mem_append_right _ (List.mem_append_right _ (List.mem_append_right _ (List.mem_append_right _ (List.mem_append_right _ (List.mem_append_right _ (List.mem_append_right _ (List.mem_append_right _ (List.mem_append_right _ (List.mem_append_left _ h)))))))))))))))))))))))))))))))))))))))
theorem bgr_29 {w : Cond} (h : w ∈ wsL_law0_r29) : w ∈ BIG := List.mem_append_left _ (List.mem_append_left _ (List.mem_append_left _ (List.mem_append_left _ (List.mem_append_left _ (List.mem_append_left _ (List.mem_append_left _ (List.mem_append_left _ (List.mem_append_left _ (List.mem_append_left _ (List.mem_append_left _ (List.mem_append_left _ (List.mem_append_right _ (List.mem_append_right _ (List.mem_append_right _ (List.mem_append_right _ (List.mem_append_right _ (List.mem_append_right _ (List.mem_append_right _ (List.mem_append_right _ (List.mem_append_right _ (List.mem_append_right _ (List.mem_append_right _ (List.mem_append_right _ (List.mem_append_right _ (List.mem_append_right _ (List.mem_append_right _ (List.mem_append_right _ (List.mem_append_right _ (List.mem_append_right _ (List.mem_append_right _ (List.mem_append_right _ (List.mem_append_right _ (List.mem_append_right _ (List.mem_append_right _ (List.mem_append_right _ (List.mem_append_right _ (List.mem_append_right _ (List.mem_append_right _ (List.mem_append_right _ (List.mem_append_left _ h))))))))))))))))))))))))))))))))))))))))
theorem bgr_30 {w : Cond} (h : w ∈ wsL_law0_r30) : w ∈ BIG := List.mem_append_left _ (List.mem_append_left _ (List.mem_append_left _ (List.mem_append_left _ (List.mem_append_left _ (List.mem_append_left _ (List.mem_append_left _ (List.mem_append_left _ (List.mem_append_left _ (List.mem_append_left _ (List.mem_append_left _ (List.mem_append_left _ (List.mem_append_right _ (List.mem_append_right _ (List.mem_append_right _ (List.mem_append_right _ (List.mem_append_right _ (List.mem_append_right _ (List.mem_append_right _ (List.mem_append_right _ (List.mem_append_right _ (List.mem_append_right _ (List.mem_append_right _ (List.mem_append_right _ (List.mem_append_right _ (List.mem_append_right _ (List.mem_append_right _ (List.mem_append_right _ (List.mem_append_right _ (List.mem_append_right _ (List.mem_append_right _ (List.mem_append_right _ (List.mem_append_right _ (List.mem_append_right _ (List.mem_append_right _ (List.mem_append_right _ (List.mem_append_right _ (List.mem_append_right _ (List.mem_append_right _ (List.mem_append_right _ (List.mem_append_right _ (List.mem_append_left _ h)))))))))))))))))))))))))))))))))))))))))
theorem bgr_31 {w : Cond} (h : w ∈ wsL_law0_r31) : w ∈ BIG := List.mem_append_left _ (List.mem_append_left _ (List.mem_append_left _ (List.mem_append_left _ (List.mem_append_left _ (List.mem_append_left _ (List.mem_append_left _ (List.mem_append_left _ (List.mem_append_left _ (List.mem_append_left _ (List.mem_append_left _ (List.mem_append_left _ (List.mem_append_right _ (List.mem_append_right _ (List.mem_append_right _ (List.mem_append_right _ (List.mem_append_right _ (List.mem_append_right _ (List.mem_append_right _ (List.mem_append_right _ (List.mem_append_right _ (List.mem_append_right _ (List.mem_append_right _ (List.mem_append_right _ (List.mem_append_right _ (List.mem_append_right _ (List.mem_append_right _ (List.mem_append_right _ (List.mem_append_right _ (List.mem_append_right _ (List.mem_append_right _ (List.mem_append_right _ (List.mem_append_right _ (List.mem_append_right _ (List.mem_append_right _ (List.mem_append_right _ (List.mem_append_right _ (List.mem_append_right _ (List.mem_append_right _ (List.mem_append_right _ (List.mem_append_right _ (List.mem_append_right _ (List.mem_append_left _ h))))))))))))))))))))))))))))))))))))))))))
theorem bgr_32 {w : Cond} (h : w ∈ wsL_law0_r32) : w ∈ BIG := List.mem_append_left _ (List.mem_append_left _ (List.mem_append_left _ (List.mem_append_left _ (List.mem_append_left _ (List.mem_append_left _ (List.mem_append_left _ (List.mem_append_left _ (List.mem_append_left _ (List.mem_append_left _ (List.mem_append_left _ (List.mem_append_left _ (List.mem_append_right _ (List.mem_append_right _ (List.mem_append_right _ (List.mem_append_right _ (List.mem_append_right _ (List.mem_append_right _ (List.mem_append_right _ (List.mem_append_right _ (List.mem_append_right _ (List.mem_append_right _ (List.mem_append_right _ (List.mem_append_right _ (List.mem_append_right _ (List.mem_append_right _ (List.mem_append_right _ (List.mem_append_right _ (List.mem_append_right _ (List.mem_append_right _ (List.mem_append_right _ (List.mem_append_right _ (List.mem_append_right _ (List.mem_append_right _ (List.mem_append_right _ (List.mem_append_right _ (List.mem_append_right _ (List.mem_append_right _ (List.mem_append_right _ (List.mem_append_right _ (List.mem_append_right _ (List.mem_append_right _ (List.mem_append_right _ (h)))))))))))))))))))))))))))))))))))))))))))
theorem bg_1_0 : (Cond.classLink RL 8 RX7) ∈ BIG := bgr_1 (List.mem_of_getElem? (i := 0) rfl)
theorem bg_1_1 : (Cond.instantiable RX7 19) ∈ BIG := bgr_1 (List.mem_of_getElem? (i := 1) rfl)
theorem bg_1_2 : (Cond.initialized RX7) ∈ BIG := bgr_1 (List.mem_of_getElem? (i := 2) rfl)
theorem bg_1_3 : (Cond.classLink RL 60 RX8) ∈ BIG := bgr_1 (List.mem_of_getElem? (i := 3) rfl)
theorem bg_1_4 : (Cond.instantiable RX8 36) ∈ BIG := bgr_1 (List.mem_of_getElem? (i := 4) rfl)
theorem bg_1_5 : (Cond.initialized RX8) ∈ BIG := bgr_1 (List.mem_of_getElem? (i := 5) rfl)
theorem bg_1_6 : (Cond.arrayClass .long) ∈ BIG := bgr_1 (List.mem_of_getElem? (i := 6) rfl)
theorem bg_1_7 : (Cond.constantLong RL 63 (4294967295)) ∈ BIG := bgr_1 (List.mem_of_getElem? (i := 7) rfl)
theorem bg_1_8 : (Cond.methodLink RL 59 yX7_init) ∈ BIG := bgr_1 (List.mem_of_getElem? (i := 8) rfl)
theorem bg_1_9 : (Cond.instanceMethod yX7_init) ∈ BIG := bgr_1 (List.mem_of_getElem? (i := 9) rfl)
theorem bg_1_10 : (Cond.code yX7_init cX7_init 2 none) ∈ BIG := bgr_1 (List.mem_of_getElem? (i := 10) rfl)
theorem bg_1_11 : (Cond.methodLink RX7 1 objectInit) ∈ BIG := bgr_1 (List.mem_of_getElem? (i := 11) rfl)
theorem bg_1_12 : (Cond.instanceMethod objectInit) ∈ BIG := bgr_1 (List.mem_of_getElem? (i := 12) rfl)
theorem bg_1_13 : (Cond.code objectInit ⟨#[0xb1]⟩ 1 none) ∈ BIG := bgr_1 (List.mem_of_getElem? (i := 13) rfl)
theorem bg_1_14 : (Cond.classLink RX7 7 RX3) ∈ BIG := bgr_1 (List.mem_of_getElem? (i := 14) rfl)
theorem bg_1_15 : (Cond.instantiable RX3 4) ∈ BIG := bgr_1 (List.mem_of_getElem? (i := 15) rfl)
theorem bg_1_16 : (Cond.initialized RX3) ∈ BIG := bgr_1 (List.mem_of_getElem? (i := 16) rfl)
theorem bg_1_17 : (Cond.fieldLink RX7 10 "SessionGate" "mac" "LSessionGate$Mac;") ∈ BIG := bgr_1 (List.mem_of_getElem? (i := 17) rfl)
theorem bg_1_18 : (Cond.classLink RX7 16 RX2) ∈ BIG := bgr_1 (List.mem_of_getElem? (i := 18) rfl)
theorem bg_1_19 : (Cond.instantiable RX2 3) ∈ BIG := bgr_1 (List.mem_of_getElem? (i := 19) rfl)
theorem bg_1_20 : (Cond.initialized RX2) ∈ BIG := bgr_1 (List.mem_of_getElem? (i := 20) rfl)
theorem bg_1_21 : (Cond.fieldLink RX7 19 "SessionGate" "keys" "LSessionGate$KeyRing;") ∈ BIG := bgr_1 (List.mem_of_getElem? (i := 21) rfl)
theorem bg_1_22 : (Cond.classLink RX7 23 RX5) ∈ BIG := bgr_1 (List.mem_of_getElem? (i := 22) rfl)
theorem bg_1_23 : (Cond.instantiable RX5 2) ∈ BIG := bgr_1 (List.mem_of_getElem? (i := 23) rfl)
theorem bg_2_0 : (Cond.initialized RX5) ∈ BIG := bgr_2 (List.mem_of_getElem? (i := 0) rfl)
theorem bg_2_1 : (Cond.fieldLink RX7 26 "SessionGate" "cookie" "LSessionGate$Text;") ∈ BIG := bgr_2 (List.mem_of_getElem? (i := 1) rfl)
theorem bg_2_2 : (Cond.fieldLink RX7 30 "SessionGate" "token" "LSessionGate$Text;") ∈ BIG := bgr_2 (List.mem_of_getElem? (i := 2) rfl)
theorem bg_2_3 : (Cond.fieldLink RX7 33 "SessionGate" "dueToken" "LSessionGate$Text;") ∈ BIG := bgr_2 (List.mem_of_getElem? (i := 3) rfl)
theorem bg_2_4 : (Cond.classLink RX7 36 RX6) ∈ BIG := bgr_2 (List.mem_of_getElem? (i := 4) rfl)
theorem bg_2_5 : (Cond.fieldLink RX7 38 "SessionGate" "users" "[LSessionGate$User;") ∈ BIG := bgr_2 (List.mem_of_getElem? (i := 5) rfl)
theorem bg_2_6 : (Cond.classLink RX7 42 RX4) ∈ BIG := bgr_2 (List.mem_of_getElem? (i := 6) rfl)
theorem bg_2_7 : (Cond.fieldLink RX7 44 "SessionGate" "sessions" "[LSessionGate$Session;") ∈ BIG := bgr_2 (List.mem_of_getElem? (i := 7) rfl)
theorem bg_2_8 : (Cond.arrayClass .int) ∈ BIG := bgr_2 (List.mem_of_getElem? (i := 8) rfl)
theorem bg_2_9 : (Cond.fieldLink RX7 48 "SessionGate" "seedBytes" "[I") ∈ BIG := bgr_2 (List.mem_of_getElem? (i := 9) rfl)
theorem bg_2_10 : (Cond.fieldLink RX7 52 "SessionGate" "countBytes" "[I") ∈ BIG := bgr_2 (List.mem_of_getElem? (i := 10) rfl)
theorem bg_2_11 : (Cond.fieldLink RX7 55 "SessionGate" "cookieBytes" "[I") ∈ BIG := bgr_2 (List.mem_of_getElem? (i := 11) rfl)
theorem bg_2_12 : (Cond.fieldLink RX7 58 "SessionGate" "markedBody" "[I") ∈ BIG := bgr_2 (List.mem_of_getElem? (i := 12) rfl)
theorem bg_2_13 : (Cond.fieldLink RX7 61 "SessionGate" "now" "J") ∈ BIG := bgr_2 (List.mem_of_getElem? (i := 13) rfl)
theorem bg_2_14 : (Cond.constantLong RX7 65 (1000000)) ∈ BIG := bgr_2 (List.mem_of_getElem? (i := 14) rfl)
theorem bg_2_15 : (Cond.fieldLink RX7 67 "SessionGate" "grace" "J") ∈ BIG := bgr_2 (List.mem_of_getElem? (i := 15) rfl)
theorem bg_2_16 : (Cond.fieldLink RX7 70 "SessionGate" "most" "J") ∈ BIG := bgr_2 (List.mem_of_getElem? (i := 16) rfl)
theorem bg_2_17 : (Cond.fieldLink RX7 73 "SessionGate" "rest" "J") ∈ BIG := bgr_2 (List.mem_of_getElem? (i := 17) rfl)
theorem bg_2_18 : (Cond.fieldLink RX7 76 "SessionGate" "begunSinceSeed" "I") ∈ BIG := bgr_2 (List.mem_of_getElem? (i := 18) rfl)
theorem bg_2_19 : (Cond.fieldLink RX7 80 "SessionGate" "letIn" "I") ∈ BIG := bgr_2 (List.mem_of_getElem? (i := 19) rfl)
theorem bg_2_20 : (Cond.fieldLink RX7 83 "SessionGate" "refused" "I") ∈ BIG := bgr_2 (List.mem_of_getElem? (i := 20) rfl)
theorem bg_2_21 : (Cond.fieldLink RX7 86 "SessionGate" "renewed" "I") ∈ BIG := bgr_2 (List.mem_of_getElem? (i := 21) rfl)
theorem bg_2_22 : (Cond.instantiable RX6 3) ∈ BIG := bgr_2 (List.mem_of_getElem? (i := 22) rfl)
theorem bg_2_23 : (Cond.initialized RX6) ∈ BIG := bgr_2 (List.mem_of_getElem? (i := 23) rfl)
theorem bg_3_0 : (Cond.instantiable RX4 5) ∈ BIG := bgr_3 (List.mem_of_getElem? (i := 0) rfl)
theorem bg_3_1 : (Cond.initialized RX4) ∈ BIG := bgr_3 (List.mem_of_getElem? (i := 1) rfl)
theorem bg_3_2 : (Cond.instanceMethod yX3_init) ∈ BIG := bgr_3 (List.mem_of_getElem? (i := 2) rfl)
theorem bg_3_3 : (Cond.code yX3_init cX3_init 1 none) ∈ BIG := bgr_3 (List.mem_of_getElem? (i := 3) rfl)
theorem bg_3_4 : (Cond.methodLink RX3 1 objectInit) ∈ BIG := bgr_3 (List.mem_of_getElem? (i := 4) rfl)
theorem bg_3_5 : (Cond.fieldLink RX3 9 "SessionGate$Mac" "bytes" "[I") ∈ BIG := bgr_3 (List.mem_of_getElem? (i := 5) rfl)
theorem bg_3_6 : (Cond.fieldLink RX3 13 "SessionGate$Mac" "blocks" "[I") ∈ BIG := bgr_3 (List.mem_of_getElem? (i := 6) rfl)
theorem bg_3_7 : (Cond.fieldLink RX3 16 "SessionGate$Mac" "schedule" "[I") ∈ BIG := bgr_3 (List.mem_of_getElem? (i := 7) rfl)
theorem bg_3_8 : (Cond.fieldLink RX3 19 "SessionGate$Mac" "state" "[I") ∈ BIG := bgr_3 (List.mem_of_getElem? (i := 8) rfl)
theorem bg_3_9 : (Cond.methodLink RX7 18 yX2_init) ∈ BIG := bgr_3 (List.mem_of_getElem? (i := 9) rfl)
theorem bg_3_10 : (Cond.instanceMethod yX2_init) ∈ BIG := bgr_3 (List.mem_of_getElem? (i := 10) rfl)
theorem bg_3_11 : (Cond.code yX2_init cX2_init 2 none) ∈ BIG := bgr_3 (List.mem_of_getElem? (i := 11) rfl)
theorem bg_3_12 : (Cond.methodLink RX2 1 objectInit) ∈ BIG := bgr_3 (List.mem_of_getElem? (i := 12) rfl)
theorem bg_3_13 : (Cond.classLink RX2 9 RX1) ∈ BIG := bgr_3 (List.mem_of_getElem? (i := 13) rfl)
theorem bg_3_14 : (Cond.fieldLink RX2 11 "SessionGate$KeyRing" "places" "[LSessionGate$Key;") ∈ BIG := bgr_3 (List.mem_of_getElem? (i := 14) rfl)
theorem bg_3_15 : (Cond.fieldLink RX2 15 "SessionGate$KeyRing" "kept" "I") ∈ BIG := bgr_3 (List.mem_of_getElem? (i := 15) rfl)
theorem bg_3_16 : (Cond.fieldLink RX2 19 "SessionGate$KeyRing" "newestPlace" "I") ∈ BIG := bgr_3 (List.mem_of_getElem? (i := 16) rfl)
theorem bg_3_17 : (Cond.instantiable RX1 3) ∈ BIG := bgr_3 (List.mem_of_getElem? (i := 17) rfl)
theorem bg_3_18 : (Cond.initialized RX1) ∈ BIG := bgr_3 (List.mem_of_getElem? (i := 18) rfl)
theorem bg_3_19 : (Cond.instanceMethod yX1_init) ∈ BIG := bgr_3 (List.mem_of_getElem? (i := 19) rfl)
theorem bg_3_20 : (Cond.code yX1_init cX1_init 1 none) ∈ BIG := bgr_3 (List.mem_of_getElem? (i := 20) rfl)
theorem bg_3_21 : (Cond.methodLink RX1 1 objectInit) ∈ BIG := bgr_3 (List.mem_of_getElem? (i := 21) rfl)
theorem bg_3_22 : (Cond.fieldLink RX1 9 "SessionGate$Key" "bytes" "[I") ∈ BIG := bgr_3 (List.mem_of_getElem? (i := 22) rfl)
theorem bg_3_23 : (Cond.fieldLink RX1 13 "SessionGate$Key" "number" "I") ∈ BIG := bgr_3 (List.mem_of_getElem? (i := 23) rfl)
theorem bg_4_0 : (Cond.fieldLink RX1 17 "SessionGate$Key" "replacedAt" "J") ∈ BIG := bgr_4 (List.mem_of_getElem? (i := 0) rfl)
theorem bg_4_1 : (Cond.instanceMethod yX5_init) ∈ BIG := bgr_4 (List.mem_of_getElem? (i := 1) rfl)
theorem bg_4_2 : (Cond.code yX5_init cX5_init 1 none) ∈ BIG := bgr_4 (List.mem_of_getElem? (i := 2) rfl)
theorem bg_4_3 : (Cond.methodLink RX5 3 objectInit) ∈ BIG := bgr_4 (List.mem_of_getElem? (i := 3) rfl)
theorem bg_4_4 : (Cond.fieldLink RX5 9 "SessionGate$Text" "signs" "[I") ∈ BIG := bgr_4 (List.mem_of_getElem? (i := 4) rfl)
theorem bg_4_5 : (Cond.fieldLink RX5 15 "SessionGate$Text" "length" "I") ∈ BIG := bgr_4 (List.mem_of_getElem? (i := 5) rfl)
theorem bg_4_6 : (Cond.instanceMethod yX6_init) ∈ BIG := bgr_4 (List.mem_of_getElem? (i := 6) rfl)
theorem bg_4_7 : (Cond.code yX6_init cX6_init 1 none) ∈ BIG := bgr_4 (List.mem_of_getElem? (i := 7) rfl)
theorem bg_4_8 : (Cond.methodLink RX6 1 objectInit) ∈ BIG := bgr_4 (List.mem_of_getElem? (i := 8) rfl)
theorem bg_4_9 : (Cond.fieldLink RX6 7 "SessionGate$User" "told" "Z") ∈ BIG := bgr_4 (List.mem_of_getElem? (i := 9) rfl)
theorem bg_4_10 : (Cond.fieldLink RX6 13 "SessionGate$User" "first" "I") ∈ BIG := bgr_4 (List.mem_of_getElem? (i := 10) rfl)
theorem bg_4_11 : (Cond.fieldLink RX6 17 "SessionGate$User" "second" "I") ∈ BIG := bgr_4 (List.mem_of_getElem? (i := 11) rfl)
theorem bg_4_12 : (Cond.instanceMethod yX4_init) ∈ BIG := bgr_4 (List.mem_of_getElem? (i := 12) rfl)
theorem bg_4_13 : (Cond.code yX4_init cX4_init 1 none) ∈ BIG := bgr_4 (List.mem_of_getElem? (i := 13) rfl)
theorem bg_4_14 : (Cond.methodLink RX4 1 objectInit) ∈ BIG := bgr_4 (List.mem_of_getElem? (i := 14) rfl)
theorem bg_4_15 : (Cond.fieldLink RX4 7 "SessionGate$Session" "open" "Z") ∈ BIG := bgr_4 (List.mem_of_getElem? (i := 15) rfl)
theorem bg_4_16 : (Cond.fieldLink RX4 13 "SessionGate$Session" "owner" "I") ∈ BIG := bgr_4 (List.mem_of_getElem? (i := 16) rfl)
theorem bg_4_17 : (Cond.fieldLink RX4 17 "SessionGate$Session" "id" "J") ∈ BIG := bgr_4 (List.mem_of_getElem? (i := 17) rfl)
theorem bg_4_18 : (Cond.fieldLink RX4 21 "SessionGate$Session" "began" "J") ∈ BIG := bgr_4 (List.mem_of_getElem? (i := 18) rfl)
theorem bg_4_19 : (Cond.fieldLink RX4 24 "SessionGate$Session" "last" "J") ∈ BIG := bgr_4 (List.mem_of_getElem? (i := 19) rfl)
theorem bg_4_20 : (Cond.methodLink RL 62 yX8_init) ∈ BIG := bgr_4 (List.mem_of_getElem? (i := 20) rfl)
theorem bg_4_21 : (Cond.instanceMethod yX8_init) ∈ BIG := bgr_4 (List.mem_of_getElem? (i := 21) rfl)
theorem bg_4_22 : (Cond.code yX8_init cX8_init 1 none) ∈ BIG := bgr_4 (List.mem_of_getElem? (i := 22) rfl)
theorem bg_4_23 : (Cond.methodLink RX8 1 objectInit) ∈ BIG := bgr_4 (List.mem_of_getElem? (i := 23) rfl)
theorem bg_5_0 : (Cond.constant RX8 7 (1116352408)) ∈ BIG := bgr_5 (List.mem_of_getElem? (i := 0) rfl)
theorem bg_5_1 : (Cond.constant RX8 8 (1899447441)) ∈ BIG := bgr_5 (List.mem_of_getElem? (i := 1) rfl)
theorem bg_5_2 : (Cond.constant RX8 9 (-1245643825)) ∈ BIG := bgr_5 (List.mem_of_getElem? (i := 2) rfl)
theorem bg_5_3 : (Cond.constant RX8 10 (-373957723)) ∈ BIG := bgr_5 (List.mem_of_getElem? (i := 3) rfl)
theorem bg_5_4 : (Cond.constant RX8 11 (961987163)) ∈ BIG := bgr_5 (List.mem_of_getElem? (i := 4) rfl)
theorem bg_5_5 : (Cond.constant RX8 12 (1508970993)) ∈ BIG := bgr_5 (List.mem_of_getElem? (i := 5) rfl)
theorem bg_5_6 : (Cond.constant RX8 13 (-1841331548)) ∈ BIG := bgr_5 (List.mem_of_getElem? (i := 6) rfl)
theorem bg_5_7 : (Cond.constant RX8 14 (-1424204075)) ∈ BIG := bgr_5 (List.mem_of_getElem? (i := 7) rfl)
theorem bg_5_8 : (Cond.constant RX8 15 (-670586216)) ∈ BIG := bgr_5 (List.mem_of_getElem? (i := 8) rfl)
theorem bg_5_9 : (Cond.constant RX8 16 (310598401)) ∈ BIG := bgr_5 (List.mem_of_getElem? (i := 9) rfl)
theorem bg_5_10 : (Cond.constant RX8 17 (607225278)) ∈ BIG := bgr_5 (List.mem_of_getElem? (i := 10) rfl)
theorem bg_5_11 : (Cond.constant RX8 18 (1426881987)) ∈ BIG := bgr_5 (List.mem_of_getElem? (i := 11) rfl)
theorem bg_5_12 : (Cond.constant RX8 19 (1925078388)) ∈ BIG := bgr_5 (List.mem_of_getElem? (i := 12) rfl)
theorem bg_5_13 : (Cond.constant RX8 20 (-2132889090)) ∈ BIG := bgr_5 (List.mem_of_getElem? (i := 13) rfl)
theorem bg_5_14 : (Cond.constant RX8 21 (-1680079193)) ∈ BIG := bgr_5 (List.mem_of_getElem? (i := 14) rfl)
theorem bg_5_15 : (Cond.constant RX8 22 (-1046744716)) ∈ BIG := bgr_5 (List.mem_of_getElem? (i := 15) rfl)
theorem bg_5_16 : (Cond.constant RX8 23 (-459576895)) ∈ BIG := bgr_5 (List.mem_of_getElem? (i := 16) rfl)
theorem bg_5_17 : (Cond.constant RX8 24 (-272742522)) ∈ BIG := bgr_5 (List.mem_of_getElem? (i := 17) rfl)
theorem bg_5_18 : (Cond.constant RX8 25 (264347078)) ∈ BIG := bgr_5 (List.mem_of_getElem? (i := 18) rfl)
theorem bg_5_19 : (Cond.constant RX8 26 (604807628)) ∈ BIG := bgr_5 (List.mem_of_getElem? (i := 19) rfl)
theorem bg_5_20 : (Cond.constant RX8 27 (770255983)) ∈ BIG := bgr_5 (List.mem_of_getElem? (i := 20) rfl)
theorem bg_5_21 : (Cond.constant RX8 28 (1249150122)) ∈ BIG := bgr_5 (List.mem_of_getElem? (i := 21) rfl)
theorem bg_5_22 : (Cond.constant RX8 29 (1555081692)) ∈ BIG := bgr_5 (List.mem_of_getElem? (i := 22) rfl)
theorem bg_5_23 : (Cond.constant RX8 30 (1996064986)) ∈ BIG := bgr_5 (List.mem_of_getElem? (i := 23) rfl)
theorem bg_6_0 : (Cond.constant RX8 31 (-1740746414)) ∈ BIG := bgr_6 (List.mem_of_getElem? (i := 0) rfl)
theorem bg_6_1 : (Cond.constant RX8 32 (-1473132947)) ∈ BIG := bgr_6 (List.mem_of_getElem? (i := 1) rfl)
theorem bg_6_2 : (Cond.constant RX8 33 (-1341970488)) ∈ BIG := bgr_6 (List.mem_of_getElem? (i := 2) rfl)
theorem bg_6_3 : (Cond.constant RX8 34 (-1084653625)) ∈ BIG := bgr_6 (List.mem_of_getElem? (i := 3) rfl)
theorem bg_6_4 : (Cond.constant RX8 35 (-958395405)) ∈ BIG := bgr_6 (List.mem_of_getElem? (i := 4) rfl)
theorem bg_6_5 : (Cond.constant RX8 36 (-710438585)) ∈ BIG := bgr_6 (List.mem_of_getElem? (i := 5) rfl)
theorem bg_6_6 : (Cond.constant RX8 37 (113926993)) ∈ BIG := bgr_6 (List.mem_of_getElem? (i := 6) rfl)
theorem bg_6_7 : (Cond.constant RX8 38 (338241895)) ∈ BIG := bgr_6 (List.mem_of_getElem? (i := 7) rfl)
theorem bg_6_8 : (Cond.constant RX8 39 (666307205)) ∈ BIG := bgr_6 (List.mem_of_getElem? (i := 8) rfl)
theorem bg_6_9 : (Cond.constant RX8 40 (773529912)) ∈ BIG := bgr_6 (List.mem_of_getElem? (i := 9) rfl)
theorem bg_6_10 : (Cond.constant RX8 41 (1294757372)) ∈ BIG := bgr_6 (List.mem_of_getElem? (i := 10) rfl)
theorem bg_6_11 : (Cond.constant RX8 42 (1396182291)) ∈ BIG := bgr_6 (List.mem_of_getElem? (i := 11) rfl)
theorem bg_6_12 : (Cond.constant RX8 43 (1695183700)) ∈ BIG := bgr_6 (List.mem_of_getElem? (i := 12) rfl)
theorem bg_6_13 : (Cond.constant RX8 44 (1986661051)) ∈ BIG := bgr_6 (List.mem_of_getElem? (i := 13) rfl)
theorem bg_6_14 : (Cond.constant RX8 45 (-2117940946)) ∈ BIG := bgr_6 (List.mem_of_getElem? (i := 14) rfl)
theorem bg_6_15 : (Cond.constant RX8 46 (-1838011259)) ∈ BIG := bgr_6 (List.mem_of_getElem? (i := 15) rfl)
theorem bg_6_16 : (Cond.constant RX8 47 (-1564481375)) ∈ BIG := bgr_6 (List.mem_of_getElem? (i := 16) rfl)
theorem bg_6_17 : (Cond.constant RX8 48 (-1474664885)) ∈ BIG := bgr_6 (List.mem_of_getElem? (i := 17) rfl)
theorem bg_6_18 : (Cond.constant RX8 49 (-1035236496)) ∈ BIG := bgr_6 (List.mem_of_getElem? (i := 18) rfl)
theorem bg_6_19 : (Cond.constant RX8 50 (-949202525)) ∈ BIG := bgr_6 (List.mem_of_getElem? (i := 19) rfl)
theorem bg_6_20 : (Cond.constant RX8 51 (-778901479)) ∈ BIG := bgr_6 (List.mem_of_getElem? (i := 20) rfl)
theorem bg_6_21 : (Cond.constant RX8 52 (-694614492)) ∈ BIG := bgr_6 (List.mem_of_getElem? (i := 21) rfl)
theorem bg_6_22 : (Cond.constant RX8 53 (-200395387)) ∈ BIG := bgr_6 (List.mem_of_getElem? (i := 22) rfl)
theorem bg_6_23 : (Cond.constant RX8 54 (275423344)) ∈ BIG := bgr_6 (List.mem_of_getElem? (i := 23) rfl)
theorem bg_7_0 : (Cond.constant RX8 55 (430227734)) ∈ BIG := bgr_7 (List.mem_of_getElem? (i := 0) rfl)
theorem bg_7_1 : (Cond.constant RX8 56 (506948616)) ∈ BIG := bgr_7 (List.mem_of_getElem? (i := 1) rfl)
theorem bg_7_2 : (Cond.constant RX8 57 (659060556)) ∈ BIG := bgr_7 (List.mem_of_getElem? (i := 2) rfl)
theorem bg_7_3 : (Cond.constant RX8 58 (883997877)) ∈ BIG := bgr_7 (List.mem_of_getElem? (i := 3) rfl)
theorem bg_7_4 : (Cond.constant RX8 59 (958139571)) ∈ BIG := bgr_7 (List.mem_of_getElem? (i := 4) rfl)
theorem bg_7_5 : (Cond.constant RX8 60 (1322822218)) ∈ BIG := bgr_7 (List.mem_of_getElem? (i := 5) rfl)
theorem bg_7_6 : (Cond.constant RX8 61 (1537002063)) ∈ BIG := bgr_7 (List.mem_of_getElem? (i := 6) rfl)
theorem bg_7_7 : (Cond.constant RX8 62 (1747873779)) ∈ BIG := bgr_7 (List.mem_of_getElem? (i := 7) rfl)
theorem bg_7_8 : (Cond.constant RX8 63 (1955562222)) ∈ BIG := bgr_7 (List.mem_of_getElem? (i := 8) rfl)
theorem bg_7_9 : (Cond.constant RX8 64 (2024104815)) ∈ BIG := bgr_7 (List.mem_of_getElem? (i := 9) rfl)
theorem bg_7_10 : (Cond.constant RX8 65 (-2067236844)) ∈ BIG := bgr_7 (List.mem_of_getElem? (i := 10) rfl)
theorem bg_7_11 : (Cond.constant RX8 66 (-1933114872)) ∈ BIG := bgr_7 (List.mem_of_getElem? (i := 11) rfl)
theorem bg_7_12 : (Cond.constant RX8 67 (-1866530822)) ∈ BIG := bgr_7 (List.mem_of_getElem? (i := 12) rfl)
theorem bg_7_13 : (Cond.constant RX8 68 (-1538233109)) ∈ BIG := bgr_7 (List.mem_of_getElem? (i := 13) rfl)
theorem bg_7_14 : (Cond.constant RX8 69 (-1090935817)) ∈ BIG := bgr_7 (List.mem_of_getElem? (i := 14) rfl)
theorem bg_7_15 : (Cond.constant RX8 70 (-965641998)) ∈ BIG := bgr_7 (List.mem_of_getElem? (i := 15) rfl)
theorem bg_7_16 : (Cond.fieldLink RX8 71 "SessionGateModel" "round" "[I") ∈ BIG := bgr_7 (List.mem_of_getElem? (i := 16) rfl)
theorem bg_7_17 : (Cond.constant RX8 77 (1779033703)) ∈ BIG := bgr_7 (List.mem_of_getElem? (i := 17) rfl)
theorem bg_7_18 : (Cond.constant RX8 78 (-1150833019)) ∈ BIG := bgr_7 (List.mem_of_getElem? (i := 18) rfl)
theorem bg_7_19 : (Cond.constant RX8 79 (1013904242)) ∈ BIG := bgr_7 (List.mem_of_getElem? (i := 19) rfl)
theorem bg_7_20 : (Cond.constant RX8 80 (-1521486534)) ∈ BIG := bgr_7 (List.mem_of_getElem? (i := 20) rfl)
theorem bg_7_21 : (Cond.constant RX8 81 (1359893119)) ∈ BIG := bgr_7 (List.mem_of_getElem? (i := 21) rfl)
theorem bg_7_22 : (Cond.constant RX8 82 (-1694144372)) ∈ BIG := bgr_7 (List.mem_of_getElem? (i := 22) rfl)
theorem bg_7_23 : (Cond.constant RX8 83 (528734635)) ∈ BIG := bgr_7 (List.mem_of_getElem? (i := 23) rfl)
theorem bg_8_0 : (Cond.constant RX8 84 (1541459225)) ∈ BIG := bgr_8 (List.mem_of_getElem? (i := 0) rfl)
theorem bg_8_1 : (Cond.fieldLink RX8 85 "SessionGateModel" "start" "[I") ∈ BIG := bgr_8 (List.mem_of_getElem? (i := 1) rfl)
theorem bg_8_2 : (Cond.fieldLink RX8 88 "SessionGateModel" "state" "[I") ∈ BIG := bgr_8 (List.mem_of_getElem? (i := 2) rfl)
theorem bg_8_3 : (Cond.fieldLink RX8 91 "SessionGateModel" "word" "[I") ∈ BIG := bgr_8 (List.mem_of_getElem? (i := 3) rfl)
theorem bg_8_4 : (Cond.fieldLink RX8 94 "SessionGateModel" "message" "[I") ∈ BIG := bgr_8 (List.mem_of_getElem? (i := 4) rfl)
theorem bg_8_5 : (Cond.fieldLink RX8 97 "SessionGateModel" "hash" "[I") ∈ BIG := bgr_8 (List.mem_of_getElem? (i := 5) rfl)
theorem bg_8_6 : (Cond.fieldLink RX8 100 "SessionGateModel" "key" "[I") ∈ BIG := bgr_8 (List.mem_of_getElem? (i := 6) rfl)
theorem bg_8_7 : (Cond.fieldLink RX8 103 "SessionGateModel" "said" "[I") ∈ BIG := bgr_8 (List.mem_of_getElem? (i := 7) rfl)
theorem bg_8_8 : (Cond.constantLong RX8 106 (1000000)) ∈ BIG := bgr_8 (List.mem_of_getElem? (i := 8) rfl)
theorem bg_8_9 : (Cond.fieldLink RX8 108 "SessionGateModel" "grace" "J") ∈ BIG := bgr_8 (List.mem_of_getElem? (i := 9) rfl)
theorem bg_8_10 : (Cond.fieldLink RX8 112 "SessionGateModel" "most" "J") ∈ BIG := bgr_8 (List.mem_of_getElem? (i := 10) rfl)
theorem bg_8_11 : (Cond.fieldLink RX8 115 "SessionGateModel" "rest" "J") ∈ BIG := bgr_8 (List.mem_of_getElem? (i := 11) rfl)
theorem bg_8_12 : (Cond.fieldLink RX8 118 "SessionGateModel" "keys" "I") ∈ BIG := bgr_8 (List.mem_of_getElem? (i := 12) rfl)
theorem bg_8_13 : (Cond.fieldLink RX8 122 "SessionGateModel" "keyNumber" "[I") ∈ BIG := bgr_8 (List.mem_of_getElem? (i := 13) rfl)
theorem bg_8_14 : (Cond.fieldLink RX8 125 "SessionGateModel" "keyBytes" "[I") ∈ BIG := bgr_8 (List.mem_of_getElem? (i := 14) rfl)
theorem bg_8_15 : (Cond.fieldLink RX8 128 "SessionGateModel" "keyUntil" "[J") ∈ BIG := bgr_8 (List.mem_of_getElem? (i := 15) rfl)
theorem bg_8_16 : (Cond.arrayClass .boolean) ∈ BIG := bgr_8 (List.mem_of_getElem? (i := 16) rfl)
theorem bg_8_17 : (Cond.fieldLink RX8 132 "SessionGateModel" "hasPassword" "[Z") ∈ BIG := bgr_8 (List.mem_of_getElem? (i := 17) rfl)
theorem bg_8_18 : (Cond.fieldLink RX8 136 "SessionGateModel" "passwordA" "[I") ∈ BIG := bgr_8 (List.mem_of_getElem? (i := 18) rfl)
theorem bg_8_19 : (Cond.fieldLink RX8 139 "SessionGateModel" "passwordB" "[I") ∈ BIG := bgr_8 (List.mem_of_getElem? (i := 19) rfl)
theorem bg_8_20 : (Cond.fieldLink RX8 142 "SessionGateModel" "isThere" "[Z") ∈ BIG := bgr_8 (List.mem_of_getElem? (i := 20) rfl)
theorem bg_8_21 : (Cond.fieldLink RX8 145 "SessionGateModel" "user" "[I") ∈ BIG := bgr_8 (List.mem_of_getElem? (i := 21) rfl)
theorem bg_8_22 : (Cond.fieldLink RX8 148 "SessionGateModel" "id" "[J") ∈ BIG := bgr_8 (List.mem_of_getElem? (i := 22) rfl)
theorem bg_8_23 : (Cond.fieldLink RX8 151 "SessionGateModel" "began" "[J") ∈ BIG := bgr_8 (List.mem_of_getElem? (i := 23) rfl)
theorem bg_9_0 : (Cond.fieldLink RX8 154 "SessionGateModel" "last" "[J") ∈ BIG := bgr_9 (List.mem_of_getElem? (i := 0) rfl)
theorem bg_9_1 : (Cond.fieldLink RX8 157 "SessionGateModel" "size" "[I") ∈ BIG := bgr_9 (List.mem_of_getElem? (i := 1) rfl)
theorem bg_9_2 : (Cond.fieldLink RX8 160 "SessionGateModel" "texts" "[I") ∈ BIG := bgr_9 (List.mem_of_getElem? (i := 2) rfl)
theorem bg_9_3 : (Cond.fieldLink RX8 163 "SessionGateModel" "raw" "[I") ∈ BIG := bgr_9 (List.mem_of_getElem? (i := 3) rfl)
theorem bg_9_4 : (Cond.methodLink RL 65 yX7_seed) ∈ BIG := bgr_9 (List.mem_of_getElem? (i := 4) rfl)
theorem bg_9_5 : (Cond.instanceMethod yX7_seed) ∈ BIG := bgr_9 (List.mem_of_getElem? (i := 5) rfl)
theorem bg_9_6 : (Cond.selects RX7 yX7_seed yX7_seed) ∈ BIG := bgr_9 (List.mem_of_getElem? (i := 6) rfl)
theorem bg_9_7 : (Cond.code yX7_seed cX7_seed 3 none) ∈ BIG := bgr_9 (List.mem_of_getElem? (i := 7) rfl)
theorem bg_9_8 : (Cond.methodLink RX7 91 yX7_writeLong) ∈ BIG := bgr_9 (List.mem_of_getElem? (i := 8) rfl)
theorem bg_9_9 : (Cond.static yX7_writeLong) ∈ BIG := bgr_9 (List.mem_of_getElem? (i := 9) rfl)
theorem bg_9_10 : (Cond.code yX7_writeLong cX7_writeLong 5 none) ∈ BIG := bgr_9 (List.mem_of_getElem? (i := 10) rfl)
theorem bg_9_11 : (Cond.methodLink RL 69 yX8_seed) ∈ BIG := bgr_9 (List.mem_of_getElem? (i := 11) rfl)
theorem bg_9_12 : (Cond.instanceMethod yX8_seed) ∈ BIG := bgr_9 (List.mem_of_getElem? (i := 12) rfl)
theorem bg_9_13 : (Cond.selects RX8 yX8_seed yX8_seed) ∈ BIG := bgr_9 (List.mem_of_getElem? (i := 13) rfl)
theorem bg_9_14 : (Cond.code yX8_seed cX8_seed 3 none) ∈ BIG := bgr_9 (List.mem_of_getElem? (i := 14) rfl)
theorem bg_9_15 : (Cond.fieldLink RX8 166 "SessionGateModel" "fault" "I") ∈ BIG := bgr_9 (List.mem_of_getElem? (i := 15) rfl)
theorem bg_9_16 : (Cond.fieldLink RX8 186 "SessionGateModel" "seed" "J") ∈ BIG := bgr_9 (List.mem_of_getElem? (i := 16) rfl)
theorem bg_9_17 : (Cond.fieldLink RX8 191 "SessionGateModel" "begunAll" "J") ∈ BIG := bgr_9 (List.mem_of_getElem? (i := 17) rfl)
theorem bg_9_18 : (Cond.methodLink RL 70 yL_pass) ∈ BIG := bgr_9 (List.mem_of_getElem? (i := 18) rfl)
theorem bg_9_19 : (Cond.static yL_pass) ∈ BIG := bgr_9 (List.mem_of_getElem? (i := 19) rfl)
theorem bg_9_20 : (Cond.initialized RL) ∈ BIG := bgr_9 (List.mem_of_getElem? (i := 20) rfl)
theorem bg_9_21 : (Cond.codeWith yL_pass cL_pass 5 (some .int) [(0, 8, 11, 13)]) ∈ BIG := bgr_9 (List.mem_of_getElem? (i := 21) rfl)
theorem bg_9_22 : (Cond.classLink RL 13 "java/lang/IllegalArgumentException") ∈ BIG := bgr_9 (List.mem_of_getElem? (i := 22) rfl)
theorem bg_9_23 : (Cond.methodLink RL 7 yX7_pass) ∈ BIG := bgr_9 (List.mem_of_getElem? (i := 23) rfl)
theorem bg_10_0 : (Cond.instanceMethod yX7_pass) ∈ BIG := bgr_10 (List.mem_of_getElem? (i := 0) rfl)
theorem bg_10_1 : (Cond.selects RX7 yX7_pass yX7_pass) ∈ BIG := bgr_10 (List.mem_of_getElem? (i := 1) rfl)
theorem bg_10_2 : (Cond.code yX7_pass cX7_pass 3 (some .long)) ∈ BIG := bgr_10 (List.mem_of_getElem? (i := 2) rfl)
theorem bg_10_3 : (Cond.classLink RX7 97 "java/lang/IllegalArgumentException") ∈ BIG := bgr_10 (List.mem_of_getElem? (i := 3) rfl)
theorem bg_10_4 : (Cond.initialized "java/lang/IllegalArgumentException") ∈ BIG := bgr_10 (List.mem_of_getElem? (i := 4) rfl)
theorem bg_10_5 : (Cond.constantLong RX7 95 (10000000000)) ∈ BIG := bgr_10 (List.mem_of_getElem? (i := 5) rfl)
theorem bg_10_6 : (Cond.methodLink RL 75 yX8_pass) ∈ BIG := bgr_10 (List.mem_of_getElem? (i := 6) rfl)
theorem bg_10_7 : (Cond.instanceMethod yX8_pass) ∈ BIG := bgr_10 (List.mem_of_getElem? (i := 7) rfl)
theorem bg_10_8 : (Cond.selects RX8 yX8_pass yX8_pass) ∈ BIG := bgr_10 (List.mem_of_getElem? (i := 8) rfl)
theorem bg_10_9 : (Cond.code yX8_pass cX8_pass 3 (some .long)) ∈ BIG := bgr_10 (List.mem_of_getElem? (i := 9) rfl)
theorem bg_10_10 : (Cond.constantLong RX8 221 (10000000000)) ∈ BIG := bgr_10 (List.mem_of_getElem? (i := 10) rfl)
theorem bg_10_11 : (Cond.fieldLink RX8 231 "SessionGateModel" "now" "J") ∈ BIG := bgr_10 (List.mem_of_getElem? (i := 11) rfl)
theorem bg_10_12 : (Cond.methodLink RX8 223 yX8_isIn) ∈ BIG := bgr_10 (List.mem_of_getElem? (i := 12) rfl)
theorem bg_10_13 : (Cond.static yX8_isIn) ∈ BIG := bgr_10 (List.mem_of_getElem? (i := 13) rfl)
theorem bg_10_14 : (Cond.code yX8_isIn cX8_isIn 6 (some .boolean)) ∈ BIG := bgr_10 (List.mem_of_getElem? (i := 14) rfl)
theorem bg_10_15 : (Cond.methodLink RX8 227 yX8_refused) ∈ BIG := bgr_10 (List.mem_of_getElem? (i := 15) rfl)
theorem bg_10_16 : (Cond.instanceMethod yX8_refused) ∈ BIG := bgr_10 (List.mem_of_getElem? (i := 16) rfl)
theorem bg_10_17 : (Cond.selects RX8 yX8_refused yX8_refused) ∈ BIG := bgr_10 (List.mem_of_getElem? (i := 17) rfl)
theorem bg_10_18 : (Cond.code yX8_refused cX8_refused 2 (some .boolean)) ∈ BIG := bgr_10 (List.mem_of_getElem? (i := 18) rfl)
theorem bg_10_19 : (Cond.methodLink RL 76 yX8_thrown) ∈ BIG := bgr_10 (List.mem_of_getElem? (i := 19) rfl)
theorem bg_10_20 : (Cond.instanceMethod yX8_thrown) ∈ BIG := bgr_10 (List.mem_of_getElem? (i := 20) rfl)
theorem bg_10_21 : (Cond.selects RX8 yX8_thrown yX8_thrown) ∈ BIG := bgr_10 (List.mem_of_getElem? (i := 21) rfl)
theorem bg_10_22 : (Cond.code yX8_thrown cX8_thrown 1 (some .int)) ∈ BIG := bgr_10 (List.mem_of_getElem? (i := 22) rfl)
theorem bg_10_23 : (Cond.methodLink RL 80 yL_limits) ∈ BIG := bgr_10 (List.mem_of_getElem? (i := 23) rfl)
theorem bg_11_0 : (Cond.static yL_limits) ∈ BIG := bgr_11 (List.mem_of_getElem? (i := 0) rfl)
theorem bg_11_1 : (Cond.codeWith yL_limits cL_limits 8 (some .int) [(0, 8, 11, 13)]) ∈ BIG := bgr_11 (List.mem_of_getElem? (i := 1) rfl)
theorem bg_11_2 : (Cond.methodLink RL 15 yX7_limits) ∈ BIG := bgr_11 (List.mem_of_getElem? (i := 2) rfl)
theorem bg_11_3 : (Cond.instanceMethod yX7_limits) ∈ BIG := bgr_11 (List.mem_of_getElem? (i := 3) rfl)
theorem bg_11_4 : (Cond.selects RX7 yX7_limits yX7_limits) ∈ BIG := bgr_11 (List.mem_of_getElem? (i := 4) rfl)
theorem bg_11_5 : (Cond.code yX7_limits cX7_limits 7 none) ∈ BIG := bgr_11 (List.mem_of_getElem? (i := 5) rfl)
theorem bg_11_6 : (Cond.methodLink RX7 100 yX7_isLimit) ∈ BIG := bgr_11 (List.mem_of_getElem? (i := 6) rfl)
theorem bg_11_7 : (Cond.static yX7_isLimit) ∈ BIG := bgr_11 (List.mem_of_getElem? (i := 7) rfl)
theorem bg_11_8 : (Cond.code yX7_isLimit cX7_isLimit 2 (some .boolean)) ∈ BIG := bgr_11 (List.mem_of_getElem? (i := 8) rfl)
theorem bg_11_9 : (Cond.constantLong RX7 222 (1000000000000)) ∈ BIG := bgr_11 (List.mem_of_getElem? (i := 9) rfl)
theorem bg_11_10 : (Cond.methodLink RL 83 yX8_limits) ∈ BIG := bgr_11 (List.mem_of_getElem? (i := 10) rfl)
theorem bg_11_11 : (Cond.instanceMethod yX8_limits) ∈ BIG := bgr_11 (List.mem_of_getElem? (i := 11) rfl)
theorem bg_11_12 : (Cond.selects RX8 yX8_limits yX8_limits) ∈ BIG := bgr_11 (List.mem_of_getElem? (i := 12) rfl)
theorem bg_11_13 : (Cond.code yX8_limits cX8_limits 9 none) ∈ BIG := bgr_11 (List.mem_of_getElem? (i := 13) rfl)
theorem bg_11_14 : (Cond.constantLong RX8 234 (1000000000000)) ∈ BIG := bgr_11 (List.mem_of_getElem? (i := 14) rfl)
theorem bg_11_15 : (Cond.methodLink RL 84 yX7_change) ∈ BIG := bgr_11 (List.mem_of_getElem? (i := 15) rfl)
theorem bg_11_16 : (Cond.instanceMethod yX7_change) ∈ BIG := bgr_11 (List.mem_of_getElem? (i := 16) rfl)
theorem bg_11_17 : (Cond.selects RX7 yX7_change yX7_change) ∈ BIG := bgr_11 (List.mem_of_getElem? (i := 17) rfl)
theorem bg_11_18 : (Cond.code yX7_change cX7_change 6 (some .int)) ∈ BIG := bgr_11 (List.mem_of_getElem? (i := 18) rfl)
theorem bg_11_19 : (Cond.methodLink RX7 104 yX2_advance) ∈ BIG := bgr_11 (List.mem_of_getElem? (i := 19) rfl)
theorem bg_11_20 : (Cond.instanceMethod yX2_advance) ∈ BIG := bgr_11 (List.mem_of_getElem? (i := 20) rfl)
theorem bg_11_21 : (Cond.selects RX2 yX2_advance yX2_advance) ∈ BIG := bgr_11 (List.mem_of_getElem? (i := 21) rfl)
theorem bg_11_22 : (Cond.code yX2_advance cX2_advance 4 none) ∈ BIG := bgr_11 (List.mem_of_getElem? (i := 22) rfl)
theorem bg_11_23 : (Cond.methodLink RX7 108 yX2_newest) ∈ BIG := bgr_11 (List.mem_of_getElem? (i := 23) rfl)
theorem bg_12_0 : (Cond.instanceMethod yX2_newest) ∈ BIG := bgr_12 (List.mem_of_getElem? (i := 0) rfl)
theorem bg_12_1 : (Cond.selects RX2 yX2_newest yX2_newest) ∈ BIG := bgr_12 (List.mem_of_getElem? (i := 1) rfl)
theorem bg_12_2 : (Cond.code yX2_newest cX2_newest 1 (some (.object "SessionGate$Key"))) ∈ BIG := bgr_12 (List.mem_of_getElem? (i := 2) rfl)
theorem bg_12_3 : (Cond.methodLink RX7 112 yX1_fill) ∈ BIG := bgr_12 (List.mem_of_getElem? (i := 3) rfl)
theorem bg_12_4 : (Cond.instanceMethod yX1_fill) ∈ BIG := bgr_12 (List.mem_of_getElem? (i := 4) rfl)
theorem bg_12_5 : (Cond.selects RX1 yX1_fill yX1_fill) ∈ BIG := bgr_12 (List.mem_of_getElem? (i := 5) rfl)
theorem bg_12_6 : (Cond.code yX1_fill cX1_fill 6 none) ∈ BIG := bgr_12 (List.mem_of_getElem? (i := 6) rfl)
theorem bg_12_7 : (Cond.static yX7_byteOf) ∈ BIG := bgr_12 (List.mem_of_getElem? (i := 7) rfl)
theorem bg_12_8 : (Cond.code yX7_byteOf cX7_byteOf 2 (some .int)) ∈ BIG := bgr_12 (List.mem_of_getElem? (i := 8) rfl)
theorem bg_12_9 : (Cond.methodLink RL 88 yX8_change) ∈ BIG := bgr_12 (List.mem_of_getElem? (i := 9) rfl)
theorem bg_12_10 : (Cond.instanceMethod yX8_change) ∈ BIG := bgr_12 (List.mem_of_getElem? (i := 10) rfl)
theorem bg_12_11 : (Cond.selects RX8 yX8_change yX8_change) ∈ BIG := bgr_12 (List.mem_of_getElem? (i := 11) rfl)
theorem bg_12_12 : (Cond.code yX8_change cX8_change 7 (some .int)) ∈ BIG := bgr_12 (List.mem_of_getElem? (i := 12) rfl)
theorem bg_12_13 : (Cond.methodLink RL 89 yL_user) ∈ BIG := bgr_12 (List.mem_of_getElem? (i := 13) rfl)
theorem bg_12_14 : (Cond.static yL_user) ∈ BIG := bgr_12 (List.mem_of_getElem? (i := 14) rfl)
theorem bg_12_15 : (Cond.codeWith yL_user cL_user 5 (some .int) [(0, 7, 10, 13)]) ∈ BIG := bgr_12 (List.mem_of_getElem? (i := 15) rfl)
theorem bg_12_16 : (Cond.methodLink RL 19 yX7_user) ∈ BIG := bgr_12 (List.mem_of_getElem? (i := 16) rfl)
theorem bg_12_17 : (Cond.instanceMethod yX7_user) ∈ BIG := bgr_12 (List.mem_of_getElem? (i := 17) rfl)
theorem bg_12_18 : (Cond.selects RX7 yX7_user yX7_user) ∈ BIG := bgr_12 (List.mem_of_getElem? (i := 18) rfl)
theorem bg_12_19 : (Cond.code yX7_user cX7_user 4 none) ∈ BIG := bgr_12 (List.mem_of_getElem? (i := 19) rfl)
theorem bg_12_20 : (Cond.methodLink RX7 121 yX7_isUser) ∈ BIG := bgr_12 (List.mem_of_getElem? (i := 20) rfl)
theorem bg_12_21 : (Cond.static yX7_isUser) ∈ BIG := bgr_12 (List.mem_of_getElem? (i := 21) rfl)
theorem bg_12_22 : (Cond.code yX7_isUser cX7_isUser 1 (some .boolean)) ∈ BIG := bgr_12 (List.mem_of_getElem? (i := 22) rfl)
theorem bg_12_23 : (Cond.methodLink RX7 125 yX6_tell) ∈ BIG := bgr_12 (List.mem_of_getElem? (i := 23) rfl)
theorem bg_13_0 : (Cond.instanceMethod yX6_tell) ∈ BIG := bgr_13 (List.mem_of_getElem? (i := 0) rfl)
theorem bg_13_1 : (Cond.selects RX6 yX6_tell yX6_tell) ∈ BIG := bgr_13 (List.mem_of_getElem? (i := 1) rfl)
theorem bg_13_2 : (Cond.code yX6_tell cX6_tell 3 none) ∈ BIG := bgr_13 (List.mem_of_getElem? (i := 2) rfl)
theorem bg_13_3 : (Cond.methodLink RL 92 yX8_user) ∈ BIG := bgr_13 (List.mem_of_getElem? (i := 3) rfl)
theorem bg_13_4 : (Cond.instanceMethod yX8_user) ∈ BIG := bgr_13 (List.mem_of_getElem? (i := 4) rfl)
theorem bg_13_5 : (Cond.selects RX8 yX8_user yX8_user) ∈ BIG := bgr_13 (List.mem_of_getElem? (i := 5) rfl)
theorem bg_13_6 : (Cond.code yX8_user cX8_user 4 none) ∈ BIG := bgr_13 (List.mem_of_getElem? (i := 6) rfl)
theorem bg_13_7 : (Cond.constantLong RX8 236 (7)) ∈ BIG := bgr_13 (List.mem_of_getElem? (i := 7) rfl)
theorem bg_13_8 : (Cond.methodLink RL 93 yL_login) ∈ BIG := bgr_13 (List.mem_of_getElem? (i := 8) rfl)
theorem bg_13_9 : (Cond.static yL_login) ∈ BIG := bgr_13 (List.mem_of_getElem? (i := 9) rfl)
theorem bg_13_10 : (Cond.codeWith yL_login cL_login 6 (some .int) [(0, 12, 15, 13)]) ∈ BIG := bgr_13 (List.mem_of_getElem? (i := 10) rfl)
theorem bg_13_11 : (Cond.methodLink RL 23 yX7_login) ∈ BIG := bgr_13 (List.mem_of_getElem? (i := 11) rfl)
theorem bg_13_12 : (Cond.instanceMethod yX7_login) ∈ BIG := bgr_13 (List.mem_of_getElem? (i := 12) rfl)
theorem bg_13_13 : (Cond.selects RX7 yX7_login yX7_login) ∈ BIG := bgr_13 (List.mem_of_getElem? (i := 13) rfl)
theorem bg_13_14 : (Cond.code yX7_login cX7_login 5 (some .int)) ∈ BIG := bgr_13 (List.mem_of_getElem? (i := 14) rfl)
theorem bg_13_15 : (Cond.methodLink RX7 129 yX6_knows) ∈ BIG := bgr_13 (List.mem_of_getElem? (i := 15) rfl)
theorem bg_13_16 : (Cond.instanceMethod yX6_knows) ∈ BIG := bgr_13 (List.mem_of_getElem? (i := 16) rfl)
theorem bg_13_17 : (Cond.selects RX6 yX6_knows yX6_knows) ∈ BIG := bgr_13 (List.mem_of_getElem? (i := 17) rfl)
theorem bg_13_18 : (Cond.code yX6_knows cX6_knows 3 (some .boolean)) ∈ BIG := bgr_13 (List.mem_of_getElem? (i := 18) rfl)
theorem bg_13_19 : (Cond.methodLink RX7 133 yX7_endStaleSessions) ∈ BIG := bgr_13 (List.mem_of_getElem? (i := 19) rfl)
theorem bg_13_20 : (Cond.instanceMethod yX7_endStaleSessions) ∈ BIG := bgr_13 (List.mem_of_getElem? (i := 20) rfl)
theorem bg_13_21 : (Cond.selects RX7 yX7_endStaleSessions yX7_endStaleSessions) ∈ BIG := bgr_13 (List.mem_of_getElem? (i := 21) rfl)
theorem bg_13_22 : (Cond.code yX7_endStaleSessions cX7_endStaleSessions 2 none) ∈ BIG := bgr_13 (List.mem_of_getElem? (i := 22) rfl)
theorem bg_13_23 : (Cond.methodLink RX7 224 yX7_isOld) ∈ BIG := bgr_13 (List.mem_of_getElem? (i := 23) rfl)
theorem bg_14_0 : (Cond.instanceMethod yX7_isOld) ∈ BIG := bgr_14 (List.mem_of_getElem? (i := 0) rfl)
theorem bg_14_1 : (Cond.selects RX7 yX7_isOld yX7_isOld) ∈ BIG := bgr_14 (List.mem_of_getElem? (i := 1) rfl)
theorem bg_14_2 : (Cond.code yX7_isOld cX7_isOld 2 (some .boolean)) ∈ BIG := bgr_14 (List.mem_of_getElem? (i := 2) rfl)
theorem bg_14_3 : (Cond.methodLink RX7 228 yX7_isIdle) ∈ BIG := bgr_14 (List.mem_of_getElem? (i := 3) rfl)
theorem bg_14_4 : (Cond.instanceMethod yX7_isIdle) ∈ BIG := bgr_14 (List.mem_of_getElem? (i := 4) rfl)
theorem bg_14_5 : (Cond.selects RX7 yX7_isIdle yX7_isIdle) ∈ BIG := bgr_14 (List.mem_of_getElem? (i := 5) rfl)
theorem bg_14_6 : (Cond.code yX7_isIdle cX7_isIdle 2 (some .boolean)) ∈ BIG := bgr_14 (List.mem_of_getElem? (i := 6) rfl)
theorem bg_14_7 : (Cond.methodLink RX7 136 yX7_freeNumber) ∈ BIG := bgr_14 (List.mem_of_getElem? (i := 7) rfl)
theorem bg_14_8 : (Cond.instanceMethod yX7_freeNumber) ∈ BIG := bgr_14 (List.mem_of_getElem? (i := 8) rfl)
theorem bg_14_9 : (Cond.selects RX7 yX7_freeNumber yX7_freeNumber) ∈ BIG := bgr_14 (List.mem_of_getElem? (i := 9) rfl)
theorem bg_14_10 : (Cond.code yX7_freeNumber cX7_freeNumber 2 (some .int)) ∈ BIG := bgr_14 (List.mem_of_getElem? (i := 10) rfl)
theorem bg_14_11 : (Cond.methodLink RX7 140 yX7_nextId) ∈ BIG := bgr_14 (List.mem_of_getElem? (i := 11) rfl)
theorem bg_14_12 : (Cond.instanceMethod yX7_nextId) ∈ BIG := bgr_14 (List.mem_of_getElem? (i := 12) rfl)
theorem bg_14_13 : (Cond.selects RX7 yX7_nextId yX7_nextId) ∈ BIG := bgr_14 (List.mem_of_getElem? (i := 13) rfl)
theorem bg_14_14 : (Cond.code yX7_nextId cX7_nextId 1 (some .long)) ∈ BIG := bgr_14 (List.mem_of_getElem? (i := 14) rfl)
theorem bg_14_15 : (Cond.methodLink RX7 217 yX3_compute) ∈ BIG := bgr_14 (List.mem_of_getElem? (i := 15) rfl)
theorem bg_14_16 : (Cond.instanceMethod yX3_compute) ∈ BIG := bgr_14 (List.mem_of_getElem? (i := 16) rfl)
theorem bg_14_17 : (Cond.selects RX3 yX3_compute yX3_compute) ∈ BIG := bgr_14 (List.mem_of_getElem? (i := 17) rfl)
theorem bg_14_18 : (Cond.code yX3_compute cX3_compute 4 none) ∈ BIG := bgr_14 (List.mem_of_getElem? (i := 18) rfl)
theorem bg_14_19 : (Cond.methodLink RX3 22 yX3_fillBlocks) ∈ BIG := bgr_14 (List.mem_of_getElem? (i := 19) rfl)
theorem bg_14_20 : (Cond.instanceMethod yX3_fillBlocks) ∈ BIG := bgr_14 (List.mem_of_getElem? (i := 20) rfl)
theorem bg_14_21 : (Cond.selects RX3 yX3_fillBlocks yX3_fillBlocks) ∈ BIG := bgr_14 (List.mem_of_getElem? (i := 21) rfl)
theorem bg_14_22 : (Cond.code yX3_fillBlocks cX3_fillBlocks 6 none) ∈ BIG := bgr_14 (List.mem_of_getElem? (i := 22) rfl)
theorem bg_14_23 : (Cond.methodLink RX3 26 yX3_hashBlocks) ∈ BIG := bgr_14 (List.mem_of_getElem? (i := 23) rfl)
theorem bg_15_0 : (Cond.instanceMethod yX3_hashBlocks) ∈ BIG := bgr_15 (List.mem_of_getElem? (i := 0) rfl)
theorem bg_15_1 : (Cond.selects RX3 yX3_hashBlocks yX3_hashBlocks) ∈ BIG := bgr_15 (List.mem_of_getElem? (i := 1) rfl)
theorem bg_15_2 : (Cond.code yX3_hashBlocks cX3_hashBlocks 2 none) ∈ BIG := bgr_15 (List.mem_of_getElem? (i := 2) rfl)
theorem bg_15_3 : (Cond.fieldLink RX3 29 "SessionGate$Mac" "START" "[I") ∈ BIG := bgr_15 (List.mem_of_getElem? (i := 3) rfl)
theorem bg_15_4 : (Cond.methodLink RX3 32 arraycopyName) ∈ BIG := bgr_15 (List.mem_of_getElem? (i := 4) rfl)
theorem bg_15_5 : (Cond.native arraycopyName) ∈ BIG := bgr_15 (List.mem_of_getElem? (i := 5) rfl)
theorem bg_15_6 : (Cond.static arraycopyName) ∈ BIG := bgr_15 (List.mem_of_getElem? (i := 6) rfl)
theorem bg_15_7 : (Cond.initialized "java/lang/System") ∈ BIG := bgr_15 (List.mem_of_getElem? (i := 7) rfl)
theorem bg_15_8 : (Cond.methodLink RX3 38 yX3_fillSchedule) ∈ BIG := bgr_15 (List.mem_of_getElem? (i := 8) rfl)
theorem bg_15_9 : (Cond.instanceMethod yX3_fillSchedule) ∈ BIG := bgr_15 (List.mem_of_getElem? (i := 9) rfl)
theorem bg_15_10 : (Cond.selects RX3 yX3_fillSchedule yX3_fillSchedule) ∈ BIG := bgr_15 (List.mem_of_getElem? (i := 10) rfl)
theorem bg_15_11 : (Cond.code yX3_fillSchedule cX3_fillSchedule 7 none) ∈ BIG := bgr_15 (List.mem_of_getElem? (i := 11) rfl)
theorem bg_15_12 : (Cond.methodLink RX3 51 yX3_turn) ∈ BIG := bgr_15 (List.mem_of_getElem? (i := 12) rfl)
theorem bg_15_13 : (Cond.static yX3_turn) ∈ BIG := bgr_15 (List.mem_of_getElem? (i := 13) rfl)
theorem bg_15_14 : (Cond.code yX3_turn cX3_turn 2 (some .int)) ∈ BIG := bgr_15 (List.mem_of_getElem? (i := 14) rfl)
theorem bg_15_15 : (Cond.methodLink RX3 42 yX3_mixSchedule) ∈ BIG := bgr_15 (List.mem_of_getElem? (i := 15) rfl)
theorem bg_15_16 : (Cond.instanceMethod yX3_mixSchedule) ∈ BIG := bgr_15 (List.mem_of_getElem? (i := 16) rfl)
theorem bg_15_17 : (Cond.selects RX3 yX3_mixSchedule yX3_mixSchedule) ∈ BIG := bgr_15 (List.mem_of_getElem? (i := 17) rfl)
theorem bg_15_18 : (Cond.code yX3_mixSchedule cX3_mixSchedule 14 none) ∈ BIG := bgr_15 (List.mem_of_getElem? (i := 18) rfl)
theorem bg_15_19 : (Cond.fieldLink RX3 54 "SessionGate$Mac" "ROUNDS" "[I") ∈ BIG := bgr_15 (List.mem_of_getElem? (i := 19) rfl)
theorem bg_15_20 : (Cond.methodLink RX7 231 yX7_readLong) ∈ BIG := bgr_15 (List.mem_of_getElem? (i := 20) rfl)
theorem bg_15_21 : (Cond.static yX7_readLong) ∈ BIG := bgr_15 (List.mem_of_getElem? (i := 21) rfl)
theorem bg_15_22 : (Cond.code yX7_readLong cX7_readLong 5 (some .long)) ∈ BIG := bgr_15 (List.mem_of_getElem? (i := 22) rfl)
theorem bg_15_23 : (Cond.methodLink RX7 144 yX4_begin) ∈ BIG := bgr_15 (List.mem_of_getElem? (i := 23) rfl)
theorem bg_16_0 : (Cond.instanceMethod yX4_begin) ∈ BIG := bgr_16 (List.mem_of_getElem? (i := 0) rfl)
theorem bg_16_1 : (Cond.selects RX4 yX4_begin yX4_begin) ∈ BIG := bgr_16 (List.mem_of_getElem? (i := 1) rfl)
theorem bg_16_2 : (Cond.code yX4_begin cX4_begin 6 none) ∈ BIG := bgr_16 (List.mem_of_getElem? (i := 2) rfl)
theorem bg_16_3 : (Cond.methodLink RX7 148 yX7_writeTexts) ∈ BIG := bgr_16 (List.mem_of_getElem? (i := 3) rfl)
theorem bg_16_4 : (Cond.instanceMethod yX7_writeTexts) ∈ BIG := bgr_16 (List.mem_of_getElem? (i := 4) rfl)
theorem bg_16_5 : (Cond.selects RX7 yX7_writeTexts yX7_writeTexts) ∈ BIG := bgr_16 (List.mem_of_getElem? (i := 5) rfl)
theorem bg_16_6 : (Cond.code yX7_writeTexts cX7_writeTexts 3 none) ∈ BIG := bgr_16 (List.mem_of_getElem? (i := 6) rfl)
theorem bg_16_7 : (Cond.methodLink RX7 261 arraycopyName) ∈ BIG := bgr_16 (List.mem_of_getElem? (i := 7) rfl)
theorem bg_16_8 : (Cond.methodLink RX7 267 yX0_encode) ∈ BIG := bgr_16 (List.mem_of_getElem? (i := 8) rfl)
theorem bg_16_9 : (Cond.static yX0_encode) ∈ BIG := bgr_16 (List.mem_of_getElem? (i := 9) rfl)
theorem bg_16_10 : (Cond.initialized RX0) ∈ BIG := bgr_16 (List.mem_of_getElem? (i := 10) rfl)
theorem bg_16_11 : (Cond.code yX0_encode cX0_encode 9 none) ∈ BIG := bgr_16 (List.mem_of_getElem? (i := 11) rfl)
theorem bg_16_12 : (Cond.methodLink RX0 19 yJ0_charAt_5068e) ∈ BIG := bgr_16 (List.mem_of_getElem? (i := 12) rfl)
theorem bg_16_13 : (Cond.instanceMethod yJ0_charAt_5068e) ∈ BIG := bgr_16 (List.mem_of_getElem? (i := 13) rfl)
theorem bg_16_14 : (Cond.selects RJ0 yJ0_charAt_5068e yJ0_charAt_5068e) ∈ BIG := bgr_16 (List.mem_of_getElem? (i := 14) rfl)
theorem bg_16_15 : (Cond.initialized RJ0) ∈ BIG := bgr_16 (List.mem_of_getElem? (i := 15) rfl)
theorem bg_16_16 : (Cond.code yJ0_charAt_5068e cJ0_charAt_5068e 2 (some .char)) ∈ BIG := bgr_16 (List.mem_of_getElem? (i := 16) rfl)
theorem bg_16_17 : (Cond.fieldLink RJ0 9 "java/lang/String" "value" "[B") ∈ BIG := bgr_16 (List.mem_of_getElem? (i := 17) rfl)
theorem bg_16_18 : (Cond.methodLink RJ0 492 yJ0_isLatin1_aae02) ∈ BIG := bgr_16 (List.mem_of_getElem? (i := 18) rfl)
theorem bg_16_19 : (Cond.instanceMethod yJ0_isLatin1_aae02) ∈ BIG := bgr_16 (List.mem_of_getElem? (i := 19) rfl)
theorem bg_16_20 : (Cond.selects RJ0 yJ0_isLatin1_aae02 yJ0_isLatin1_aae02) ∈ BIG := bgr_16 (List.mem_of_getElem? (i := 20) rfl)
theorem bg_16_21 : (Cond.code yJ0_isLatin1_aae02 cJ0_isLatin1_aae02 1 (some .boolean)) ∈ BIG := bgr_16 (List.mem_of_getElem? (i := 21) rfl)
theorem bg_16_22 : (Cond.fieldLink RJ0 38 "java/lang/String" "COMPACT_STRINGS" "Z") ∈ BIG := bgr_16 (List.mem_of_getElem? (i := 22) rfl)
theorem bg_16_23 : (Cond.fieldLink RJ0 15 "java/lang/String" "coder" "B") ∈ BIG := bgr_16 (List.mem_of_getElem? (i := 23) rfl)
theorem bg_17_0 : (Cond.methodLink RJ0 495 yJ1_charAt_3b067) ∈ BIG := bgr_17 (List.mem_of_getElem? (i := 0) rfl)
theorem bg_17_1 : (Cond.static yJ1_charAt_3b067) ∈ BIG := bgr_17 (List.mem_of_getElem? (i := 1) rfl)
theorem bg_17_2 : (Cond.initialized RJ1) ∈ BIG := bgr_17 (List.mem_of_getElem? (i := 2) rfl)
theorem bg_17_3 : (Cond.code yJ1_charAt_3b067 cJ1_charAt_3b067 2 (some .char)) ∈ BIG := bgr_17 (List.mem_of_getElem? (i := 3) rfl)
theorem bg_17_4 : (Cond.methodLink RJ1 9 yJ0_checkIndex_df160) ∈ BIG := bgr_17 (List.mem_of_getElem? (i := 4) rfl)
theorem bg_17_5 : (Cond.static yJ0_checkIndex_df160) ∈ BIG := bgr_17 (List.mem_of_getElem? (i := 5) rfl)
theorem bg_17_6 : (Cond.code yJ0_checkIndex_df160 cJ0_checkIndex_df160 2 none) ∈ BIG := bgr_17 (List.mem_of_getElem? (i := 6) rfl)
theorem bg_17_7 : (Cond.fieldLink RJ0 1053 "jdk/internal/util/Preconditions" "SIOOBE_FORMATTER" "Ljava/util/function/BiFunction;") ∈ BIG := bgr_17 (List.mem_of_getElem? (i := 7) rfl)
theorem bg_17_8 : (Cond.methodLink RJ0 1059 yJ3_checkIndex_8e157) ∈ BIG := bgr_17 (List.mem_of_getElem? (i := 8) rfl)
theorem bg_17_9 : (Cond.static yJ3_checkIndex_8e157) ∈ BIG := bgr_17 (List.mem_of_getElem? (i := 9) rfl)
theorem bg_17_10 : (Cond.initialized RJ3) ∈ BIG := bgr_17 (List.mem_of_getElem? (i := 10) rfl)
theorem bg_17_11 : (Cond.code yJ3_checkIndex_8e157 cJ3_checkIndex_8e157 3 (some .int)) ∈ BIG := bgr_17 (List.mem_of_getElem? (i := 11) rfl)
theorem bg_17_12 : (Cond.methodLink RJ0 498 yJ2_charAt_3b067) ∈ BIG := bgr_17 (List.mem_of_getElem? (i := 12) rfl)
theorem bg_17_13 : (Cond.static yJ2_charAt_3b067) ∈ BIG := bgr_17 (List.mem_of_getElem? (i := 13) rfl)
theorem bg_17_14 : (Cond.initialized RJ2) ∈ BIG := bgr_17 (List.mem_of_getElem? (i := 14) rfl)
theorem bg_17_15 : (Cond.code yJ2_charAt_3b067 cJ2_charAt_3b067 2 (some .char)) ∈ BIG := bgr_17 (List.mem_of_getElem? (i := 15) rfl)
theorem bg_17_16 : (Cond.methodLink RJ2 67 yJ2_checkIndex_2214a) ∈ BIG := bgr_17 (List.mem_of_getElem? (i := 16) rfl)
theorem bg_17_17 : (Cond.static yJ2_checkIndex_2214a) ∈ BIG := bgr_17 (List.mem_of_getElem? (i := 17) rfl)
theorem bg_17_18 : (Cond.code yJ2_checkIndex_2214a cJ2_checkIndex_2214a 2 none) ∈ BIG := bgr_17 (List.mem_of_getElem? (i := 18) rfl)
theorem bg_17_19 : (Cond.methodLink RJ2 48 yJ2_length_9d52b) ∈ BIG := bgr_17 (List.mem_of_getElem? (i := 19) rfl)
theorem bg_17_20 : (Cond.static yJ2_length_9d52b) ∈ BIG := bgr_17 (List.mem_of_getElem? (i := 20) rfl)
theorem bg_17_21 : (Cond.code yJ2_length_9d52b cJ2_length_9d52b 1 (some .int)) ∈ BIG := bgr_17 (List.mem_of_getElem? (i := 21) rfl)
theorem bg_17_22 : (Cond.methodLink RJ2 414 yJ0_checkIndex_df160) ∈ BIG := bgr_17 (List.mem_of_getElem? (i := 22) rfl)
theorem bg_17_23 : (Cond.methodLink RJ2 71 yJ2_getChar_3b067) ∈ BIG := bgr_17 (List.mem_of_getElem? (i := 23) rfl)
theorem bg_18_0 : (Cond.static yJ2_getChar_3b067) ∈ BIG := bgr_18 (List.mem_of_getElem? (i := 0) rfl)
theorem bg_18_1 : (Cond.code yJ2_getChar_3b067 cJ2_getChar_3b067 2 (some .char)) ∈ BIG := bgr_18 (List.mem_of_getElem? (i := 1) rfl)
theorem bg_18_2 : (Cond.fieldLink RJ2 44 "java/lang/StringUTF16" "$assertionsDisabled" "Z") ∈ BIG := bgr_18 (List.mem_of_getElem? (i := 2) rfl)
theorem bg_18_3 : (Cond.fieldLink RJ2 59 "java/lang/StringUTF16" "HI_BYTE_SHIFT" "I") ∈ BIG := bgr_18 (List.mem_of_getElem? (i := 3) rfl)
theorem bg_18_4 : (Cond.fieldLink RJ2 63 "java/lang/StringUTF16" "LO_BYTE_SHIFT" "I") ∈ BIG := bgr_18 (List.mem_of_getElem? (i := 4) rfl)
theorem bg_18_5 : (Cond.methodLink RX0 25 yX5_addSign) ∈ BIG := bgr_18 (List.mem_of_getElem? (i := 5) rfl)
theorem bg_18_6 : (Cond.instanceMethod yX5_addSign) ∈ BIG := bgr_18 (List.mem_of_getElem? (i := 6) rfl)
theorem bg_18_7 : (Cond.selects RX5 yX5_addSign yX5_addSign) ∈ BIG := bgr_18 (List.mem_of_getElem? (i := 7) rfl)
theorem bg_18_8 : (Cond.code yX5_addSign cX5_addSign 2 none) ∈ BIG := bgr_18 (List.mem_of_getElem? (i := 8) rfl)
theorem bg_18_9 : (Cond.methodLink RX7 253 yX7_writeToken) ∈ BIG := bgr_18 (List.mem_of_getElem? (i := 9) rfl)
theorem bg_18_10 : (Cond.instanceMethod yX7_writeToken) ∈ BIG := bgr_18 (List.mem_of_getElem? (i := 10) rfl)
theorem bg_18_11 : (Cond.selects RX7 yX7_writeToken yX7_writeToken) ∈ BIG := bgr_18 (List.mem_of_getElem? (i := 11) rfl)
theorem bg_18_12 : (Cond.code yX7_writeToken cX7_writeToken 3 none) ∈ BIG := bgr_18 (List.mem_of_getElem? (i := 12) rfl)
theorem bg_18_13 : (Cond.methodLink RL 96 yX8_login) ∈ BIG := bgr_18 (List.mem_of_getElem? (i := 13) rfl)
theorem bg_18_14 : (Cond.instanceMethod yX8_login) ∈ BIG := bgr_18 (List.mem_of_getElem? (i := 14) rfl)
theorem bg_18_15 : (Cond.selects RX8 yX8_login yX8_login) ∈ BIG := bgr_18 (List.mem_of_getElem? (i := 15) rfl)
theorem bg_18_16 : (Cond.code yX8_login cX8_login 6 (some .int)) ∈ BIG := bgr_18 (List.mem_of_getElem? (i := 16) rfl)
theorem bg_18_17 : (Cond.methodLink RX8 238 yX8_isOld) ∈ BIG := bgr_18 (List.mem_of_getElem? (i := 17) rfl)
theorem bg_18_18 : (Cond.instanceMethod yX8_isOld) ∈ BIG := bgr_18 (List.mem_of_getElem? (i := 18) rfl)
theorem bg_18_19 : (Cond.selects RX8 yX8_isOld yX8_isOld) ∈ BIG := bgr_18 (List.mem_of_getElem? (i := 19) rfl)
theorem bg_18_20 : (Cond.code yX8_isOld cX8_isOld 2 (some .boolean)) ∈ BIG := bgr_18 (List.mem_of_getElem? (i := 20) rfl)
theorem bg_18_21 : (Cond.methodLink RX8 241 yX8_isIdle) ∈ BIG := bgr_18 (List.mem_of_getElem? (i := 21) rfl)
theorem bg_18_22 : (Cond.instanceMethod yX8_isIdle) ∈ BIG := bgr_18 (List.mem_of_getElem? (i := 22) rfl)
theorem bg_18_23 : (Cond.selects RX8 yX8_isIdle yX8_isIdle) ∈ BIG := bgr_18 (List.mem_of_getElem? (i := 23) rfl)
theorem bg_19_0 : (Cond.code yX8_isIdle cX8_isIdle 2 (some .boolean)) ∈ BIG := bgr_19 (List.mem_of_getElem? (i := 0) rfl)
theorem bg_19_1 : (Cond.methodLink RX8 244 yX8_newId) ∈ BIG := bgr_19 (List.mem_of_getElem? (i := 1) rfl)
theorem bg_19_2 : (Cond.instanceMethod yX8_newId) ∈ BIG := bgr_19 (List.mem_of_getElem? (i := 2) rfl)
theorem bg_19_3 : (Cond.selects RX8 yX8_newId yX8_newId) ∈ BIG := bgr_19 (List.mem_of_getElem? (i := 3) rfl)
theorem bg_19_4 : (Cond.code yX8_newId cX8_newId 4 (some .long)) ∈ BIG := bgr_19 (List.mem_of_getElem? (i := 4) rfl)
theorem bg_19_5 : (Cond.constantLong RX8 189 (255)) ∈ BIG := bgr_19 (List.mem_of_getElem? (i := 5) rfl)
theorem bg_19_6 : (Cond.fieldLink RX8 180 "SessionGateModel" "saidSize" "I") ∈ BIG := bgr_19 (List.mem_of_getElem? (i := 6) rfl)
theorem bg_19_7 : (Cond.methodLink RX8 194 yX8_say) ∈ BIG := bgr_19 (List.mem_of_getElem? (i := 7) rfl)
theorem bg_19_8 : (Cond.instanceMethod yX8_say) ∈ BIG := bgr_19 (List.mem_of_getElem? (i := 8) rfl)
theorem bg_19_9 : (Cond.selects RX8 yX8_say yX8_say) ∈ BIG := bgr_19 (List.mem_of_getElem? (i := 9) rfl)
theorem bg_19_10 : (Cond.code yX8_say cX8_say 2 none) ∈ BIG := bgr_19 (List.mem_of_getElem? (i := 10) rfl)
theorem bg_19_11 : (Cond.methodLink RX8 197 yX8_seal) ∈ BIG := bgr_19 (List.mem_of_getElem? (i := 11) rfl)
theorem bg_19_12 : (Cond.instanceMethod yX8_seal) ∈ BIG := bgr_19 (List.mem_of_getElem? (i := 12) rfl)
theorem bg_19_13 : (Cond.selects RX8 yX8_seal yX8_seal) ∈ BIG := bgr_19 (List.mem_of_getElem? (i := 13) rfl)
theorem bg_19_14 : (Cond.code yX8_seal cX8_seal 2 none) ∈ BIG := bgr_19 (List.mem_of_getElem? (i := 14) rfl)
theorem bg_19_15 : (Cond.fieldLink RX8 173 "SessionGateModel" "messageSize" "I") ∈ BIG := bgr_19 (List.mem_of_getElem? (i := 15) rfl)
theorem bg_19_16 : (Cond.methodLink RX8 183 yX8_hashNow) ∈ BIG := bgr_19 (List.mem_of_getElem? (i := 16) rfl)
theorem bg_19_17 : (Cond.instanceMethod yX8_hashNow) ∈ BIG := bgr_19 (List.mem_of_getElem? (i := 17) rfl)
theorem bg_19_18 : (Cond.selects RX8 yX8_hashNow yX8_hashNow) ∈ BIG := bgr_19 (List.mem_of_getElem? (i := 18) rfl)
theorem bg_19_19 : (Cond.code yX8_hashNow cX8_hashNow 4 none) ∈ BIG := bgr_19 (List.mem_of_getElem? (i := 19) rfl)
theorem bg_19_20 : (Cond.methodLink RX8 176 yX8_block) ∈ BIG := bgr_19 (List.mem_of_getElem? (i := 20) rfl)
theorem bg_19_21 : (Cond.instanceMethod yX8_block) ∈ BIG := bgr_19 (List.mem_of_getElem? (i := 21) rfl)
theorem bg_19_22 : (Cond.selects RX8 yX8_block yX8_block) ∈ BIG := bgr_19 (List.mem_of_getElem? (i := 22) rfl)
theorem bg_19_23 : (Cond.code yX8_block cX8_block 13 none) ∈ BIG := bgr_19 (List.mem_of_getElem? (i := 23) rfl)
theorem bg_20_0 : (Cond.methodLink RX8 169 yX8_turn) ∈ BIG := bgr_20 (List.mem_of_getElem? (i := 0) rfl)
theorem bg_20_1 : (Cond.static yX8_turn) ∈ BIG := bgr_20 (List.mem_of_getElem? (i := 1) rfl)
theorem bg_20_2 : (Cond.code yX8_turn cX8_turn 2 (some .int)) ∈ BIG := bgr_20 (List.mem_of_getElem? (i := 2) rfl)
theorem bg_20_3 : (Cond.methodLink RX8 248 yX8_issue) ∈ BIG := bgr_20 (List.mem_of_getElem? (i := 3) rfl)
theorem bg_20_4 : (Cond.instanceMethod yX8_issue) ∈ BIG := bgr_20 (List.mem_of_getElem? (i := 4) rfl)
theorem bg_20_5 : (Cond.selects RX8 yX8_issue yX8_issue) ∈ BIG := bgr_20 (List.mem_of_getElem? (i := 5) rfl)
theorem bg_20_6 : (Cond.code yX8_issue cX8_issue 4 none) ∈ BIG := bgr_20 (List.mem_of_getElem? (i := 6) rfl)
theorem bg_20_7 : (Cond.methodLink RX8 211 yX8_body) ∈ BIG := bgr_20 (List.mem_of_getElem? (i := 7) rfl)
theorem bg_20_8 : (Cond.instanceMethod yX8_body) ∈ BIG := bgr_20 (List.mem_of_getElem? (i := 8) rfl)
theorem bg_20_9 : (Cond.selects RX8 yX8_body yX8_body) ∈ BIG := bgr_20 (List.mem_of_getElem? (i := 9) rfl)
theorem bg_20_10 : (Cond.code yX8_body cX8_body 6 none) ∈ BIG := bgr_20 (List.mem_of_getElem? (i := 10) rfl)
theorem bg_20_11 : (Cond.methodLink RX8 207 yX8_sealBody) ∈ BIG := bgr_20 (List.mem_of_getElem? (i := 11) rfl)
theorem bg_20_12 : (Cond.instanceMethod yX8_sealBody) ∈ BIG := bgr_20 (List.mem_of_getElem? (i := 12) rfl)
theorem bg_20_13 : (Cond.selects RX8 yX8_sealBody yX8_sealBody) ∈ BIG := bgr_20 (List.mem_of_getElem? (i := 13) rfl)
theorem bg_20_14 : (Cond.code yX8_sealBody cX8_sealBody 4 none) ∈ BIG := bgr_20 (List.mem_of_getElem? (i := 14) rfl)
theorem bg_20_15 : (Cond.methodLink RX8 204 yX8_takeKey) ∈ BIG := bgr_20 (List.mem_of_getElem? (i := 15) rfl)
theorem bg_20_16 : (Cond.instanceMethod yX8_takeKey) ∈ BIG := bgr_20 (List.mem_of_getElem? (i := 16) rfl)
theorem bg_20_17 : (Cond.selects RX8 yX8_takeKey yX8_takeKey) ∈ BIG := bgr_20 (List.mem_of_getElem? (i := 17) rfl)
theorem bg_20_18 : (Cond.code yX8_takeKey cX8_takeKey 3 none) ∈ BIG := bgr_20 (List.mem_of_getElem? (i := 18) rfl)
theorem bg_20_19 : (Cond.methodLink RX8 215 yX8_codedAt) ∈ BIG := bgr_20 (List.mem_of_getElem? (i := 19) rfl)
theorem bg_20_20 : (Cond.instanceMethod yX8_codedAt) ∈ BIG := bgr_20 (List.mem_of_getElem? (i := 20) rfl)
theorem bg_20_21 : (Cond.selects RX8 yX8_codedAt yX8_codedAt) ∈ BIG := bgr_20 (List.mem_of_getElem? (i := 21) rfl)
theorem bg_20_22 : (Cond.code yX8_codedAt cX8_codedAt 5 (some .int)) ∈ BIG := bgr_20 (List.mem_of_getElem? (i := 22) rfl)
theorem bg_20_23 : (Cond.methodLink RX8 200 yX8_signOf) ∈ BIG := bgr_20 (List.mem_of_getElem? (i := 23) rfl)
theorem bg_21_0 : (Cond.static yX8_signOf) ∈ BIG := bgr_21 (List.mem_of_getElem? (i := 0) rfl)
theorem bg_21_1 : (Cond.code yX8_signOf cX8_signOf 1 (some .int)) ∈ BIG := bgr_21 (List.mem_of_getElem? (i := 1) rfl)
theorem bg_21_2 : (Cond.methodLink RX8 218 yX8_token) ∈ BIG := bgr_21 (List.mem_of_getElem? (i := 2) rfl)
theorem bg_21_3 : (Cond.instanceMethod yX8_token) ∈ BIG := bgr_21 (List.mem_of_getElem? (i := 3) rfl)
theorem bg_21_4 : (Cond.selects RX8 yX8_token yX8_token) ∈ BIG := bgr_21 (List.mem_of_getElem? (i := 4) rfl)
theorem bg_21_5 : (Cond.code yX8_token cX8_token 3 none) ∈ BIG := bgr_21 (List.mem_of_getElem? (i := 5) rfl)
theorem bg_21_6 : (Cond.methodLink RL 97 yX7_request) ∈ BIG := bgr_21 (List.mem_of_getElem? (i := 6) rfl)
theorem bg_21_7 : (Cond.instanceMethod yX7_request) ∈ BIG := bgr_21 (List.mem_of_getElem? (i := 7) rfl)
theorem bg_21_8 : (Cond.selects RX7 yX7_request yX7_request) ∈ BIG := bgr_21 (List.mem_of_getElem? (i := 8) rfl)
theorem bg_21_9 : (Cond.code yX7_request cX7_request 3 (some .int)) ∈ BIG := bgr_21 (List.mem_of_getElem? (i := 9) rfl)
theorem bg_21_10 : (Cond.methodLink RX7 152 yX7_judge) ∈ BIG := bgr_21 (List.mem_of_getElem? (i := 10) rfl)
theorem bg_21_11 : (Cond.instanceMethod yX7_judge) ∈ BIG := bgr_21 (List.mem_of_getElem? (i := 11) rfl)
theorem bg_21_12 : (Cond.selects RX7 yX7_judge yX7_judge) ∈ BIG := bgr_21 (List.mem_of_getElem? (i := 12) rfl)
theorem bg_21_13 : (Cond.code yX7_judge cX7_judge 4 (some .int)) ∈ BIG := bgr_21 (List.mem_of_getElem? (i := 13) rfl)
theorem bg_21_14 : (Cond.methodLink RX7 235 yX0_decodeCookie) ∈ BIG := bgr_21 (List.mem_of_getElem? (i := 14) rfl)
theorem bg_21_15 : (Cond.static yX0_decodeCookie) ∈ BIG := bgr_21 (List.mem_of_getElem? (i := 15) rfl)
theorem bg_21_16 : (Cond.code yX0_decodeCookie cX0_decodeCookie 6 (some .boolean)) ∈ BIG := bgr_21 (List.mem_of_getElem? (i := 16) rfl)
theorem bg_21_17 : (Cond.methodLink RX0 29 yX0_isCookieForm) ∈ BIG := bgr_21 (List.mem_of_getElem? (i := 17) rfl)
theorem bg_21_18 : (Cond.static yX0_isCookieForm) ∈ BIG := bgr_21 (List.mem_of_getElem? (i := 18) rfl)
theorem bg_21_19 : (Cond.code yX0_isCookieForm cX0_isCookieForm 2 (some .boolean)) ∈ BIG := bgr_21 (List.mem_of_getElem? (i := 19) rfl)
theorem bg_21_20 : (Cond.methodLink RX0 37 yX0_sixBits) ∈ BIG := bgr_21 (List.mem_of_getElem? (i := 20) rfl)
theorem bg_21_21 : (Cond.static yX0_sixBits) ∈ BIG := bgr_21 (List.mem_of_getElem? (i := 21) rfl)
theorem bg_21_22 : (Cond.code yX0_sixBits cX0_sixBits 1 (some .int)) ∈ BIG := bgr_21 (List.mem_of_getElem? (i := 22) rfl)
theorem bg_21_23 : (Cond.methodLink RX0 41 yJ0_indexOf_0f7a4) ∈ BIG := bgr_21 (List.mem_of_getElem? (i := 23) rfl)
theorem bg_22_0 : (Cond.instanceMethod yJ0_indexOf_0f7a4) ∈ BIG := bgr_22 (List.mem_of_getElem? (i := 0) rfl)
theorem bg_22_1 : (Cond.selects RJ0 yJ0_indexOf_0f7a4 yJ0_indexOf_0f7a4) ∈ BIG := bgr_22 (List.mem_of_getElem? (i := 1) rfl)
theorem bg_22_2 : (Cond.code yJ0_indexOf_0f7a4 cJ0_indexOf_0f7a4 2 (some .int)) ∈ BIG := bgr_22 (List.mem_of_getElem? (i := 2) rfl)
theorem bg_22_3 : (Cond.methodLink RJ0 633 yJ0_indexOf_7cf53) ∈ BIG := bgr_22 (List.mem_of_getElem? (i := 3) rfl)
theorem bg_22_4 : (Cond.instanceMethod yJ0_indexOf_7cf53) ∈ BIG := bgr_22 (List.mem_of_getElem? (i := 4) rfl)
theorem bg_22_5 : (Cond.selects RJ0 yJ0_indexOf_7cf53 yJ0_indexOf_7cf53) ∈ BIG := bgr_22 (List.mem_of_getElem? (i := 5) rfl)
theorem bg_22_6 : (Cond.code yJ0_indexOf_7cf53 cJ0_indexOf_7cf53 3 (some .int)) ∈ BIG := bgr_22 (List.mem_of_getElem? (i := 6) rfl)
theorem bg_22_7 : (Cond.methodLink RJ0 505 yJ0_length_8abf5) ∈ BIG := bgr_22 (List.mem_of_getElem? (i := 7) rfl)
theorem bg_22_8 : (Cond.instanceMethod yJ0_length_8abf5) ∈ BIG := bgr_22 (List.mem_of_getElem? (i := 8) rfl)
theorem bg_22_9 : (Cond.selects RJ0 yJ0_length_8abf5 yJ0_length_8abf5) ∈ BIG := bgr_22 (List.mem_of_getElem? (i := 9) rfl)
theorem bg_22_10 : (Cond.code yJ0_length_8abf5 cJ0_length_8abf5 1 (some .int)) ∈ BIG := bgr_22 (List.mem_of_getElem? (i := 10) rfl)
theorem bg_22_11 : (Cond.methodLink RJ0 335 yJ0_coder_7d493) ∈ BIG := bgr_22 (List.mem_of_getElem? (i := 11) rfl)
theorem bg_22_12 : (Cond.instanceMethod yJ0_coder_7d493) ∈ BIG := bgr_22 (List.mem_of_getElem? (i := 12) rfl)
theorem bg_22_13 : (Cond.selects RJ0 yJ0_coder_7d493 yJ0_coder_7d493) ∈ BIG := bgr_22 (List.mem_of_getElem? (i := 13) rfl)
theorem bg_22_14 : (Cond.code yJ0_coder_7d493 cJ0_coder_7d493 1 (some .byte)) ∈ BIG := bgr_22 (List.mem_of_getElem? (i := 14) rfl)
theorem bg_22_15 : (Cond.methodLink RJ0 637 yJ1_indexOf_4cfef) ∈ BIG := bgr_22 (List.mem_of_getElem? (i := 15) rfl)
theorem bg_22_16 : (Cond.static yJ1_indexOf_4cfef) ∈ BIG := bgr_22 (List.mem_of_getElem? (i := 16) rfl)
theorem bg_22_17 : (Cond.code yJ1_indexOf_4cfef cJ1_indexOf_4cfef 4 (some .int)) ∈ BIG := bgr_22 (List.mem_of_getElem? (i := 17) rfl)
theorem bg_22_18 : (Cond.methodLink RJ1 92 Lib.Math.max.name) ∈ BIG := bgr_22 (List.mem_of_getElem? (i := 18) rfl)
theorem bg_22_19 : (Cond.static Lib.Math.max.name) ∈ BIG := bgr_22 (List.mem_of_getElem? (i := 19) rfl)
theorem bg_22_20 : (Cond.initialized "java/lang/Math") ∈ BIG := bgr_22 (List.mem_of_getElem? (i := 20) rfl)
theorem bg_22_21 : (Cond.code Lib.Math.max.name Lib.Math.max.code 2 (some .int)) ∈ BIG := bgr_22 (List.mem_of_getElem? (i := 21) rfl)
theorem bg_22_22 : (Cond.methodLink RJ1 38 Lib.Math.min.name) ∈ BIG := bgr_22 (List.mem_of_getElem? (i := 22) rfl)
theorem bg_22_23 : (Cond.static Lib.Math.min.name) ∈ BIG := bgr_22 (List.mem_of_getElem? (i := 23) rfl)
theorem bg_23_0 : (Cond.code Lib.Math.min.name Lib.Math.min.code 2 (some .int)) ∈ BIG := bgr_23 (List.mem_of_getElem? (i := 0) rfl)
theorem bg_23_1 : (Cond.methodLink RJ1 88 yJ1_canEncode_9a6ad) ∈ BIG := bgr_23 (List.mem_of_getElem? (i := 1) rfl)
theorem bg_23_2 : (Cond.static yJ1_canEncode_9a6ad) ∈ BIG := bgr_23 (List.mem_of_getElem? (i := 2) rfl)
theorem bg_23_3 : (Cond.code yJ1_canEncode_9a6ad cJ1_canEncode_9a6ad 1 (some .boolean)) ∈ BIG := bgr_23 (List.mem_of_getElem? (i := 3) rfl)
theorem bg_23_4 : (Cond.methodLink RJ1 95 yJ1_indexOfChar_4cfef) ∈ BIG := bgr_23 (List.mem_of_getElem? (i := 4) rfl)
theorem bg_23_5 : (Cond.static yJ1_indexOfChar_4cfef) ∈ BIG := bgr_23 (List.mem_of_getElem? (i := 5) rfl)
theorem bg_23_6 : (Cond.code yJ1_indexOfChar_4cfef cJ1_indexOfChar_4cfef 6 (some .int)) ∈ BIG := bgr_23 (List.mem_of_getElem? (i := 6) rfl)
theorem bg_23_7 : (Cond.methodLink RJ0 640 yJ2_indexOf_4cfef) ∈ BIG := bgr_23 (List.mem_of_getElem? (i := 7) rfl)
theorem bg_23_8 : (Cond.static yJ2_indexOf_4cfef) ∈ BIG := bgr_23 (List.mem_of_getElem? (i := 8) rfl)
theorem bg_23_9 : (Cond.code yJ2_indexOf_4cfef cJ2_indexOf_4cfef 4 (some .int)) ∈ BIG := bgr_23 (List.mem_of_getElem? (i := 9) rfl)
theorem bg_23_10 : (Cond.methodLink RJ2 224 Lib.Math.max.name) ∈ BIG := bgr_23 (List.mem_of_getElem? (i := 10) rfl)
theorem bg_23_11 : (Cond.methodLink RJ2 183 Lib.Math.min.name) ∈ BIG := bgr_23 (List.mem_of_getElem? (i := 11) rfl)
theorem bg_23_12 : (Cond.constant RJ2 227 (65536)) ∈ BIG := bgr_23 (List.mem_of_getElem? (i := 12) rfl)
theorem bg_23_13 : (Cond.methodLink RJ2 228 yJ2_indexOfChar_4cfef) ∈ BIG := bgr_23 (List.mem_of_getElem? (i := 13) rfl)
theorem bg_23_14 : (Cond.static yJ2_indexOfChar_4cfef) ∈ BIG := bgr_23 (List.mem_of_getElem? (i := 14) rfl)
theorem bg_23_15 : (Cond.code yJ2_indexOfChar_4cfef cJ2_indexOfChar_4cfef 4 (some .int)) ∈ BIG := bgr_23 (List.mem_of_getElem? (i := 15) rfl)
theorem bg_23_16 : (Cond.methodLink RJ2 96 yJ2_checkBoundsBeginEnd_d044e) ∈ BIG := bgr_23 (List.mem_of_getElem? (i := 16) rfl)
theorem bg_23_17 : (Cond.static yJ2_checkBoundsBeginEnd_d044e) ∈ BIG := bgr_23 (List.mem_of_getElem? (i := 17) rfl)
theorem bg_23_18 : (Cond.code yJ2_checkBoundsBeginEnd_d044e cJ2_checkBoundsBeginEnd_d044e 3 none) ∈ BIG := bgr_23 (List.mem_of_getElem? (i := 18) rfl)
theorem bg_23_19 : (Cond.methodLink RJ2 241 yJ0_checkBoundsBeginEnd_23922) ∈ BIG := bgr_23 (List.mem_of_getElem? (i := 19) rfl)
theorem bg_23_20 : (Cond.static yJ0_checkBoundsBeginEnd_23922) ∈ BIG := bgr_23 (List.mem_of_getElem? (i := 20) rfl)
theorem bg_23_21 : (Cond.code yJ0_checkBoundsBeginEnd_23922 cJ0_checkBoundsBeginEnd_23922 3 none) ∈ BIG := bgr_23 (List.mem_of_getElem? (i := 21) rfl)
theorem bg_23_22 : (Cond.methodLink RJ0 1062 yJ3_checkFromToIndex_8c36e) ∈ BIG := bgr_23 (List.mem_of_getElem? (i := 22) rfl)
theorem bg_23_23 : (Cond.static yJ3_checkFromToIndex_8c36e) ∈ BIG := bgr_23 (List.mem_of_getElem? (i := 23) rfl)
theorem bg_24_0 : (Cond.code yJ3_checkFromToIndex_8c36e cJ3_checkFromToIndex_8c36e 4 (some .int)) ∈ BIG := bgr_24 (List.mem_of_getElem? (i := 0) rfl)
theorem bg_24_1 : (Cond.methodLink RJ2 244 yJ2_indexOfCharUnsafe_4cfef) ∈ BIG := bgr_24 (List.mem_of_getElem? (i := 1) rfl)
theorem bg_24_2 : (Cond.static yJ2_indexOfCharUnsafe_4cfef) ∈ BIG := bgr_24 (List.mem_of_getElem? (i := 2) rfl)
theorem bg_24_3 : (Cond.code yJ2_indexOfCharUnsafe_4cfef cJ2_indexOfCharUnsafe_4cfef 5 (some .int)) ∈ BIG := bgr_24 (List.mem_of_getElem? (i := 3) rfl)
theorem bg_24_4 : (Cond.methodLink RJ2 232 yJ2_indexOfSupplementary_4cfef) ∈ BIG := bgr_24 (List.mem_of_getElem? (i := 4) rfl)
theorem bg_24_5 : (Cond.static yJ2_indexOfSupplementary_4cfef) ∈ BIG := bgr_24 (List.mem_of_getElem? (i := 5) rfl)
theorem bg_24_6 : (Cond.code yJ2_indexOfSupplementary_4cfef cJ2_indexOfSupplementary_4cfef 7 (some .int)) ∈ BIG := bgr_24 (List.mem_of_getElem? (i := 6) rfl)
theorem bg_24_7 : (Cond.methodLink RJ2 164 yJ11_isValidCodePoint_9a6ad) ∈ BIG := bgr_24 (List.mem_of_getElem? (i := 7) rfl)
theorem bg_24_8 : (Cond.static yJ11_isValidCodePoint_9a6ad) ∈ BIG := bgr_24 (List.mem_of_getElem? (i := 8) rfl)
theorem bg_24_9 : (Cond.initialized RJ11) ∈ BIG := bgr_24 (List.mem_of_getElem? (i := 9) rfl)
theorem bg_24_10 : (Cond.code yJ11_isValidCodePoint_9a6ad cJ11_isValidCodePoint_9a6ad 2 (some .boolean)) ∈ BIG := bgr_24 (List.mem_of_getElem? (i := 10) rfl)
theorem bg_24_11 : (Cond.methodLink RJ2 157 yJ11_highSurrogate_5068e) ∈ BIG := bgr_24 (List.mem_of_getElem? (i := 11) rfl)
theorem bg_24_12 : (Cond.static yJ11_highSurrogate_5068e) ∈ BIG := bgr_24 (List.mem_of_getElem? (i := 12) rfl)
theorem bg_24_13 : (Cond.code yJ11_highSurrogate_5068e cJ11_highSurrogate_5068e 1 (some .char)) ∈ BIG := bgr_24 (List.mem_of_getElem? (i := 13) rfl)
theorem bg_24_14 : (Cond.constant RJ11 110 (55232)) ∈ BIG := bgr_24 (List.mem_of_getElem? (i := 14) rfl)
theorem bg_24_15 : (Cond.methodLink RJ2 161 yJ11_lowSurrogate_5068e) ∈ BIG := bgr_24 (List.mem_of_getElem? (i := 15) rfl)
theorem bg_24_16 : (Cond.static yJ11_lowSurrogate_5068e) ∈ BIG := bgr_24 (List.mem_of_getElem? (i := 16) rfl)
theorem bg_24_17 : (Cond.code yJ11_lowSurrogate_5068e cJ11_lowSurrogate_5068e 1 (some .char)) ∈ BIG := bgr_24 (List.mem_of_getElem? (i := 17) rfl)
theorem bg_24_18 : (Cond.constant RJ11 76 (56320)) ∈ BIG := bgr_24 (List.mem_of_getElem? (i := 18) rfl)
theorem bg_24_19 : (Cond.methodLink RX7 241 yX2_liveKey) ∈ BIG := bgr_24 (List.mem_of_getElem? (i := 19) rfl)
theorem bg_24_20 : (Cond.instanceMethod yX2_liveKey) ∈ BIG := bgr_24 (List.mem_of_getElem? (i := 20) rfl)
theorem bg_24_21 : (Cond.selects RX2 yX2_liveKey yX2_liveKey) ∈ BIG := bgr_24 (List.mem_of_getElem? (i := 21) rfl)
theorem bg_24_22 : (Cond.code yX2_liveKey cX2_liveKey 7 (some (.object "SessionGate$Key"))) ∈ BIG := bgr_24 (List.mem_of_getElem? (i := 22) rfl)
theorem bg_24_23 : (Cond.methodLink RX2 30 yX2_isLive) ∈ BIG := bgr_24 (List.mem_of_getElem? (i := 23) rfl)
theorem bg_25_0 : (Cond.instanceMethod yX2_isLive) ∈ BIG := bgr_25 (List.mem_of_getElem? (i := 0) rfl)
theorem bg_25_1 : (Cond.selects RX2 yX2_isLive yX2_isLive) ∈ BIG := bgr_25 (List.mem_of_getElem? (i := 1) rfl)
theorem bg_25_2 : (Cond.code yX2_isLive cX2_isLive 6 (some .boolean)) ∈ BIG := bgr_25 (List.mem_of_getElem? (i := 2) rfl)
theorem bg_25_3 : (Cond.methodLink RX7 245 yX7_isSealedBy) ∈ BIG := bgr_25 (List.mem_of_getElem? (i := 3) rfl)
theorem bg_25_4 : (Cond.instanceMethod yX7_isSealedBy) ∈ BIG := bgr_25 (List.mem_of_getElem? (i := 4) rfl)
theorem bg_25_5 : (Cond.selects RX7 yX7_isSealedBy yX7_isSealedBy) ∈ BIG := bgr_25 (List.mem_of_getElem? (i := 5) rfl)
theorem bg_25_6 : (Cond.code yX7_isSealedBy cX7_isSealedBy 3 (some .boolean)) ∈ BIG := bgr_25 (List.mem_of_getElem? (i := 6) rfl)
theorem bg_25_7 : (Cond.methodLink RX7 249 yX7_numberOf) ∈ BIG := bgr_25 (List.mem_of_getElem? (i := 7) rfl)
theorem bg_25_8 : (Cond.instanceMethod yX7_numberOf) ∈ BIG := bgr_25 (List.mem_of_getElem? (i := 8) rfl)
theorem bg_25_9 : (Cond.selects RX7 yX7_numberOf yX7_numberOf) ∈ BIG := bgr_25 (List.mem_of_getElem? (i := 9) rfl)
theorem bg_25_10 : (Cond.code yX7_numberOf cX7_numberOf 5 (some .int)) ∈ BIG := bgr_25 (List.mem_of_getElem? (i := 10) rfl)
theorem bg_25_11 : (Cond.methodLink RX7 257 yX5_isSameAs) ∈ BIG := bgr_25 (List.mem_of_getElem? (i := 11) rfl)
theorem bg_25_12 : (Cond.instanceMethod yX5_isSameAs) ∈ BIG := bgr_25 (List.mem_of_getElem? (i := 12) rfl)
theorem bg_25_13 : (Cond.selects RX5 yX5_isSameAs yX5_isSameAs) ∈ BIG := bgr_25 (List.mem_of_getElem? (i := 13) rfl)
theorem bg_25_14 : (Cond.code yX5_isSameAs cX5_isSameAs 3 (some .boolean)) ∈ BIG := bgr_25 (List.mem_of_getElem? (i := 14) rfl)
theorem bg_25_15 : (Cond.methodLink RX7 156 yX7_tally) ∈ BIG := bgr_25 (List.mem_of_getElem? (i := 15) rfl)
theorem bg_25_16 : (Cond.instanceMethod yX7_tally) ∈ BIG := bgr_25 (List.mem_of_getElem? (i := 16) rfl)
theorem bg_25_17 : (Cond.selects RX7 yX7_tally yX7_tally) ∈ BIG := bgr_25 (List.mem_of_getElem? (i := 17) rfl)
theorem bg_25_18 : (Cond.code yX7_tally cX7_tally 2 none) ∈ BIG := bgr_25 (List.mem_of_getElem? (i := 18) rfl)
theorem bg_25_19 : (Cond.methodLink RL 101 yX8_request) ∈ BIG := bgr_25 (List.mem_of_getElem? (i := 19) rfl)
theorem bg_25_20 : (Cond.instanceMethod yX8_request) ∈ BIG := bgr_25 (List.mem_of_getElem? (i := 20) rfl)
theorem bg_25_21 : (Cond.selects RX8 yX8_request yX8_request) ∈ BIG := bgr_25 (List.mem_of_getElem? (i := 21) rfl)
theorem bg_25_22 : (Cond.code yX8_request cX8_request 3 (some .int)) ∈ BIG := bgr_25 (List.mem_of_getElem? (i := 22) rfl)
theorem bg_25_23 : (Cond.fieldLink RX8 268 "SessionGateModel" "refusedMany" "I") ∈ BIG := bgr_25 (List.mem_of_getElem? (i := 23) rfl)
theorem bg_26_0 : (Cond.fieldLink RX8 271 "SessionGateModel" "letIn" "I") ∈ BIG := bgr_26 (List.mem_of_getElem? (i := 0) rfl)
theorem bg_26_1 : (Cond.fieldLink RX8 258 "SessionGateModel" "keyAt" "I") ∈ BIG := bgr_26 (List.mem_of_getElem? (i := 1) rfl)
theorem bg_26_2 : (Cond.fieldLink RX8 274 "SessionGateModel" "renewed" "I") ∈ BIG := bgr_26 (List.mem_of_getElem? (i := 2) rfl)
theorem bg_26_3 : (Cond.methodLink RX8 264 yX8_look) ∈ BIG := bgr_26 (List.mem_of_getElem? (i := 3) rfl)
theorem bg_26_4 : (Cond.instanceMethod yX8_look) ∈ BIG := bgr_26 (List.mem_of_getElem? (i := 4) rfl)
theorem bg_26_5 : (Cond.selects RX8 yX8_look yX8_look) ∈ BIG := bgr_26 (List.mem_of_getElem? (i := 5) rfl)
theorem bg_26_6 : (Cond.code yX8_look cX8_look 7 (some .int)) ∈ BIG := bgr_26 (List.mem_of_getElem? (i := 6) rfl)
theorem bg_26_7 : (Cond.methodLink RX8 254 yX8_isForm) ∈ BIG := bgr_26 (List.mem_of_getElem? (i := 7) rfl)
theorem bg_26_8 : (Cond.instanceMethod yX8_isForm) ∈ BIG := bgr_26 (List.mem_of_getElem? (i := 8) rfl)
theorem bg_26_9 : (Cond.selects RX8 yX8_isForm yX8_isForm) ∈ BIG := bgr_26 (List.mem_of_getElem? (i := 9) rfl)
theorem bg_26_10 : (Cond.code yX8_isForm cX8_isForm 5 (some .boolean)) ∈ BIG := bgr_26 (List.mem_of_getElem? (i := 10) rfl)
theorem bg_26_11 : (Cond.methodLink RX8 251 yX8_valueOf) ∈ BIG := bgr_26 (List.mem_of_getElem? (i := 11) rfl)
theorem bg_26_12 : (Cond.static yX8_valueOf) ∈ BIG := bgr_26 (List.mem_of_getElem? (i := 12) rfl)
theorem bg_26_13 : (Cond.code yX8_valueOf cX8_valueOf 1 (some .int)) ∈ BIG := bgr_26 (List.mem_of_getElem? (i := 13) rfl)
theorem bg_26_14 : (Cond.methodLink RX8 261 yX8_isLive) ∈ BIG := bgr_26 (List.mem_of_getElem? (i := 14) rfl)
theorem bg_26_15 : (Cond.instanceMethod yX8_isLive) ∈ BIG := bgr_26 (List.mem_of_getElem? (i := 15) rfl)
theorem bg_26_16 : (Cond.selects RX8 yX8_isLive yX8_isLive) ∈ BIG := bgr_26 (List.mem_of_getElem? (i := 16) rfl)
theorem bg_26_17 : (Cond.code yX8_isLive cX8_isLive 2 (some .boolean)) ∈ BIG := bgr_26 (List.mem_of_getElem? (i := 17) rfl)
theorem bg_26_18 : (Cond.methodLink RL 102 yX7_logout) ∈ BIG := bgr_26 (List.mem_of_getElem? (i := 18) rfl)
theorem bg_26_19 : (Cond.instanceMethod yX7_logout) ∈ BIG := bgr_26 (List.mem_of_getElem? (i := 19) rfl)
theorem bg_26_20 : (Cond.selects RX7 yX7_logout yX7_logout) ∈ BIG := bgr_26 (List.mem_of_getElem? (i := 20) rfl)
theorem bg_26_21 : (Cond.code yX7_logout cX7_logout 2 (some .int)) ∈ BIG := bgr_26 (List.mem_of_getElem? (i := 21) rfl)
theorem bg_26_22 : (Cond.methodLink RL 105 yX8_logout) ∈ BIG := bgr_26 (List.mem_of_getElem? (i := 22) rfl)
theorem bg_26_23 : (Cond.instanceMethod yX8_logout) ∈ BIG := bgr_26 (List.mem_of_getElem? (i := 23) rfl)
theorem bg_27_0 : (Cond.selects RX8 yX8_logout yX8_logout) ∈ BIG := bgr_27 (List.mem_of_getElem? (i := 0) rfl)
theorem bg_27_1 : (Cond.code yX8_logout cX8_logout 2 (some .int)) ∈ BIG := bgr_27 (List.mem_of_getElem? (i := 1) rfl)
theorem bg_27_2 : (Cond.methodLink RL 106 yL_revoke) ∈ BIG := bgr_27 (List.mem_of_getElem? (i := 2) rfl)
theorem bg_27_3 : (Cond.static yL_revoke) ∈ BIG := bgr_27 (List.mem_of_getElem? (i := 3) rfl)
theorem bg_27_4 : (Cond.codeWith yL_revoke cL_revoke 4 (some .int) [(0, 9, 12, 13)]) ∈ BIG := bgr_27 (List.mem_of_getElem? (i := 4) rfl)
theorem bg_27_5 : (Cond.methodLink RL 27 yX7_revoke) ∈ BIG := bgr_27 (List.mem_of_getElem? (i := 5) rfl)
theorem bg_27_6 : (Cond.instanceMethod yX7_revoke) ∈ BIG := bgr_27 (List.mem_of_getElem? (i := 6) rfl)
theorem bg_27_7 : (Cond.selects RX7 yX7_revoke yX7_revoke) ∈ BIG := bgr_27 (List.mem_of_getElem? (i := 7) rfl)
theorem bg_27_8 : (Cond.code yX7_revoke cX7_revoke 4 (some .int)) ∈ BIG := bgr_27 (List.mem_of_getElem? (i := 8) rfl)
theorem bg_27_9 : (Cond.methodLink RL 109 yX8_revoke) ∈ BIG := bgr_27 (List.mem_of_getElem? (i := 9) rfl)
theorem bg_27_10 : (Cond.instanceMethod yX8_revoke) ∈ BIG := bgr_27 (List.mem_of_getElem? (i := 10) rfl)
theorem bg_27_11 : (Cond.selects RX8 yX8_revoke yX8_revoke) ∈ BIG := bgr_27 (List.mem_of_getElem? (i := 11) rfl)
theorem bg_27_12 : (Cond.code yX8_revoke cX8_revoke 4 (some .int)) ∈ BIG := bgr_27 (List.mem_of_getElem? (i := 12) rfl)
theorem bg_27_13 : (Cond.methodLink RL 110 yL_type) ∈ BIG := bgr_27 (List.mem_of_getElem? (i := 13) rfl)
theorem bg_27_14 : (Cond.static yL_type) ∈ BIG := bgr_27 (List.mem_of_getElem? (i := 14) rfl)
theorem bg_27_15 : (Cond.codeWith yL_type cL_type 8 (some .int) [(0, 16, 19, 13), (0, 16, 23, 35)]) ∈ BIG := bgr_27 (List.mem_of_getElem? (i := 15) rfl)
theorem bg_27_16 : (Cond.classLink RL 35 "java/lang/IllegalStateException") ∈ BIG := bgr_27 (List.mem_of_getElem? (i := 16) rfl)
theorem bg_27_17 : (Cond.methodLink RL 31 yX7_type) ∈ BIG := bgr_27 (List.mem_of_getElem? (i := 17) rfl)
theorem bg_27_18 : (Cond.instanceMethod yX7_type) ∈ BIG := bgr_27 (List.mem_of_getElem? (i := 18) rfl)
theorem bg_27_19 : (Cond.selects RX7 yX7_type yX7_type) ∈ BIG := bgr_27 (List.mem_of_getElem? (i := 19) rfl)
theorem bg_27_20 : (Cond.code yX7_type cX7_type 8 (some .int)) ∈ BIG := bgr_27 (List.mem_of_getElem? (i := 20) rfl)
theorem bg_27_21 : (Cond.classLink RX7 184 "java/lang/IllegalStateException") ∈ BIG := bgr_27 (List.mem_of_getElem? (i := 21) rfl)
theorem bg_27_22 : (Cond.initialized "java/lang/IllegalStateException") ∈ BIG := bgr_27 (List.mem_of_getElem? (i := 22) rfl)
theorem bg_27_23 : (Cond.methodLink RX7 170 yX7_isText) ∈ BIG := bgr_27 (List.mem_of_getElem? (i := 23) rfl)
theorem bg_28_0 : (Cond.static yX7_isText) ∈ BIG := bgr_28 (List.mem_of_getElem? (i := 0) rfl)
theorem bg_28_1 : (Cond.code yX7_isText cX7_isText 1 (some .boolean)) ∈ BIG := bgr_28 (List.mem_of_getElem? (i := 1) rfl)
theorem bg_28_2 : (Cond.methodLink RX7 173 yX7_textOf) ∈ BIG := bgr_28 (List.mem_of_getElem? (i := 2) rfl)
theorem bg_28_3 : (Cond.instanceMethod yX7_textOf) ∈ BIG := bgr_28 (List.mem_of_getElem? (i := 3) rfl)
theorem bg_28_4 : (Cond.selects RX7 yX7_textOf yX7_textOf) ∈ BIG := bgr_28 (List.mem_of_getElem? (i := 4) rfl)
theorem bg_28_5 : (Cond.code yX7_textOf cX7_textOf 2 (some (.object "SessionGate$Text"))) ∈ BIG := bgr_28 (List.mem_of_getElem? (i := 5) rfl)
theorem bg_28_6 : (Cond.methodLink RX7 177 yX7_signsIn) ∈ BIG := bgr_28 (List.mem_of_getElem? (i := 6) rfl)
theorem bg_28_7 : (Cond.static yX7_signsIn) ∈ BIG := bgr_28 (List.mem_of_getElem? (i := 7) rfl)
theorem bg_28_8 : (Cond.code yX7_signsIn cX7_signsIn 3 (some .int)) ∈ BIG := bgr_28 (List.mem_of_getElem? (i := 8) rfl)
theorem bg_28_9 : (Cond.methodLink RX7 271 yX7_byteOf) ∈ BIG := bgr_28 (List.mem_of_getElem? (i := 9) rfl)
theorem bg_28_10 : (Cond.methodLink RX7 187 yX5_addSigns) ∈ BIG := bgr_28 (List.mem_of_getElem? (i := 10) rfl)
theorem bg_28_11 : (Cond.instanceMethod yX5_addSigns) ∈ BIG := bgr_28 (List.mem_of_getElem? (i := 11) rfl)
theorem bg_28_12 : (Cond.selects RX5 yX5_addSigns yX5_addSigns) ∈ BIG := bgr_28 (List.mem_of_getElem? (i := 12) rfl)
theorem bg_28_13 : (Cond.code yX5_addSigns cX5_addSigns 4 none) ∈ BIG := bgr_28 (List.mem_of_getElem? (i := 13) rfl)
theorem bg_28_14 : (Cond.methodLink RX5 23 yX5_addSign) ∈ BIG := bgr_28 (List.mem_of_getElem? (i := 14) rfl)
theorem bg_28_15 : (Cond.methodLink RL 113 yX8_type) ∈ BIG := bgr_28 (List.mem_of_getElem? (i := 15) rfl)
theorem bg_28_16 : (Cond.instanceMethod yX8_type) ∈ BIG := bgr_28 (List.mem_of_getElem? (i := 16) rfl)
theorem bg_28_17 : (Cond.selects RX8 yX8_type yX8_type) ∈ BIG := bgr_28 (List.mem_of_getElem? (i := 17) rfl)
theorem bg_28_18 : (Cond.code yX8_type cX8_type 8 (some .int)) ∈ BIG := bgr_28 (List.mem_of_getElem? (i := 18) rfl)
theorem bg_28_19 : (Cond.methodLink RX8 277 yX8_many) ∈ BIG := bgr_28 (List.mem_of_getElem? (i := 19) rfl)
theorem bg_28_20 : (Cond.static yX8_many) ∈ BIG := bgr_28 (List.mem_of_getElem? (i := 20) rfl)
theorem bg_28_21 : (Cond.code yX8_many cX8_many 1 (some .int)) ∈ BIG := bgr_28 (List.mem_of_getElem? (i := 21) rfl)
theorem bg_28_22 : (Cond.methodLink RX8 280 yX8_typed) ∈ BIG := bgr_28 (List.mem_of_getElem? (i := 22) rfl)
theorem bg_28_23 : (Cond.instanceMethod yX8_typed) ∈ BIG := bgr_28 (List.mem_of_getElem? (i := 23) rfl)
theorem bg_29_0 : (Cond.selects RX8 yX8_typed yX8_typed) ∈ BIG := bgr_29 (List.mem_of_getElem? (i := 0) rfl)
theorem bg_29_1 : (Cond.code yX8_typed cX8_typed 7 (some .int)) ∈ BIG := bgr_29 (List.mem_of_getElem? (i := 1) rfl)
theorem bg_29_2 : (Cond.methodLink RL 114 yL_erase) ∈ BIG := bgr_29 (List.mem_of_getElem? (i := 2) rfl)
theorem bg_29_3 : (Cond.static yL_erase) ∈ BIG := bgr_29 (List.mem_of_getElem? (i := 3) rfl)
theorem bg_29_4 : (Cond.codeWith yL_erase cL_erase 4 (some .int) [(0, 9, 12, 13)]) ∈ BIG := bgr_29 (List.mem_of_getElem? (i := 4) rfl)
theorem bg_29_5 : (Cond.methodLink RL 37 yX7_erase) ∈ BIG := bgr_29 (List.mem_of_getElem? (i := 5) rfl)
theorem bg_29_6 : (Cond.instanceMethod yX7_erase) ∈ BIG := bgr_29 (List.mem_of_getElem? (i := 6) rfl)
theorem bg_29_7 : (Cond.selects RX7 yX7_erase yX7_erase) ∈ BIG := bgr_29 (List.mem_of_getElem? (i := 7) rfl)
theorem bg_29_8 : (Cond.code yX7_erase cX7_erase 4 (some .int)) ∈ BIG := bgr_29 (List.mem_of_getElem? (i := 8) rfl)
theorem bg_29_9 : (Cond.methodLink RL 116 yX8_erase) ∈ BIG := bgr_29 (List.mem_of_getElem? (i := 9) rfl)
theorem bg_29_10 : (Cond.instanceMethod yX8_erase) ∈ BIG := bgr_29 (List.mem_of_getElem? (i := 10) rfl)
theorem bg_29_11 : (Cond.selects RX8 yX8_erase yX8_erase) ∈ BIG := bgr_29 (List.mem_of_getElem? (i := 11) rfl)
theorem bg_29_12 : (Cond.code yX8_erase cX8_erase 3 (some .int)) ∈ BIG := bgr_29 (List.mem_of_getElem? (i := 12) rfl)
theorem bg_29_13 : (Cond.methodLink RL 117 yL_put) ∈ BIG := bgr_29 (List.mem_of_getElem? (i := 13) rfl)
theorem bg_29_14 : (Cond.static yL_put) ∈ BIG := bgr_29 (List.mem_of_getElem? (i := 14) rfl)
theorem bg_29_15 : (Cond.codeWith yL_put cL_put 6 (some .int) [(0, 12, 15, 13), (0, 12, 19, 43)]) ∈ BIG := bgr_29 (List.mem_of_getElem? (i := 15) rfl)
theorem bg_29_16 : (Cond.classLink RL 43 "java/lang/IndexOutOfBoundsException") ∈ BIG := bgr_29 (List.mem_of_getElem? (i := 16) rfl)
theorem bg_29_17 : (Cond.methodLink RL 40 yX7_put) ∈ BIG := bgr_29 (List.mem_of_getElem? (i := 17) rfl)
theorem bg_29_18 : (Cond.instanceMethod yX7_put) ∈ BIG := bgr_29 (List.mem_of_getElem? (i := 18) rfl)
theorem bg_29_19 : (Cond.selects RX7 yX7_put yX7_put) ∈ BIG := bgr_29 (List.mem_of_getElem? (i := 19) rfl)
theorem bg_29_20 : (Cond.code yX7_put cX7_put 6 (some .int)) ∈ BIG := bgr_29 (List.mem_of_getElem? (i := 20) rfl)
theorem bg_29_21 : (Cond.classLink RX7 193 "java/lang/IndexOutOfBoundsException") ∈ BIG := bgr_29 (List.mem_of_getElem? (i := 21) rfl)
theorem bg_29_22 : (Cond.initialized "java/lang/IndexOutOfBoundsException") ∈ BIG := bgr_29 (List.mem_of_getElem? (i := 22) rfl)
theorem bg_29_23 : (Cond.methodLink RX7 190 yX5_has) ∈ BIG := bgr_29 (List.mem_of_getElem? (i := 23) rfl)
theorem bg_30_0 : (Cond.instanceMethod yX5_has) ∈ BIG := bgr_30 (List.mem_of_getElem? (i := 0) rfl)
theorem bg_30_1 : (Cond.selects RX5 yX5_has yX5_has) ∈ BIG := bgr_30 (List.mem_of_getElem? (i := 1) rfl)
theorem bg_30_2 : (Cond.code yX5_has cX5_has 2 (some .boolean)) ∈ BIG := bgr_30 (List.mem_of_getElem? (i := 2) rfl)
theorem bg_30_3 : (Cond.methodLink RL 119 yX8_put) ∈ BIG := bgr_30 (List.mem_of_getElem? (i := 3) rfl)
theorem bg_30_4 : (Cond.instanceMethod yX8_put) ∈ BIG := bgr_30 (List.mem_of_getElem? (i := 4) rfl)
theorem bg_30_5 : (Cond.selects RX8 yX8_put yX8_put) ∈ BIG := bgr_30 (List.mem_of_getElem? (i := 5) rfl)
theorem bg_30_6 : (Cond.code yX8_put cX8_put 6 (some .int)) ∈ BIG := bgr_30 (List.mem_of_getElem? (i := 6) rfl)
theorem bg_30_7 : (Cond.methodLink RL 120 yL_sign) ∈ BIG := bgr_30 (List.mem_of_getElem? (i := 7) rfl)
theorem bg_30_8 : (Cond.static yL_sign) ∈ BIG := bgr_30 (List.mem_of_getElem? (i := 8) rfl)
theorem bg_30_9 : (Cond.codeWith yL_sign cL_sign 5 (some .int) [(0, 10, 13, 13)]) ∈ BIG := bgr_30 (List.mem_of_getElem? (i := 9) rfl)
theorem bg_30_10 : (Cond.methodLink RL 45 yX7_sign) ∈ BIG := bgr_30 (List.mem_of_getElem? (i := 10) rfl)
theorem bg_30_11 : (Cond.instanceMethod yX7_sign) ∈ BIG := bgr_30 (List.mem_of_getElem? (i := 11) rfl)
theorem bg_30_12 : (Cond.selects RX7 yX7_sign yX7_sign) ∈ BIG := bgr_30 (List.mem_of_getElem? (i := 12) rfl)
theorem bg_30_13 : (Cond.code yX7_sign cX7_sign 4 (some .int)) ∈ BIG := bgr_30 (List.mem_of_getElem? (i := 13) rfl)
theorem bg_30_14 : (Cond.methodLink RL 123 yX8_sign) ∈ BIG := bgr_30 (List.mem_of_getElem? (i := 14) rfl)
theorem bg_30_15 : (Cond.instanceMethod yX8_sign) ∈ BIG := bgr_30 (List.mem_of_getElem? (i := 15) rfl)
theorem bg_30_16 : (Cond.selects RX8 yX8_sign yX8_sign) ∈ BIG := bgr_30 (List.mem_of_getElem? (i := 16) rfl)
theorem bg_30_17 : (Cond.code yX8_sign cX8_sign 3 (some .int)) ∈ BIG := bgr_30 (List.mem_of_getElem? (i := 17) rfl)
theorem bg_30_18 : (Cond.methodLink RL 124 yL_session) ∈ BIG := bgr_30 (List.mem_of_getElem? (i := 18) rfl)
theorem bg_30_19 : (Cond.static yL_session) ∈ BIG := bgr_30 (List.mem_of_getElem? (i := 19) rfl)
theorem bg_30_20 : (Cond.codeWith yL_session cL_session 5 (some .int) [(0, 9, 12, 13)]) ∈ BIG := bgr_30 (List.mem_of_getElem? (i := 20) rfl)
theorem bg_30_21 : (Cond.methodLink RL 49 yX7_session) ∈ BIG := bgr_30 (List.mem_of_getElem? (i := 21) rfl)
theorem bg_30_22 : (Cond.instanceMethod yX7_session) ∈ BIG := bgr_30 (List.mem_of_getElem? (i := 22) rfl)
theorem bg_30_23 : (Cond.selects RX7 yX7_session yX7_session) ∈ BIG := bgr_30 (List.mem_of_getElem? (i := 23) rfl)
theorem bg_31_0 : (Cond.code yX7_session cX7_session 4 (some .long)) ∈ BIG := bgr_31 (List.mem_of_getElem? (i := 0) rfl)
theorem bg_31_1 : (Cond.constantLong RX7 199 (-1)) ∈ BIG := bgr_31 (List.mem_of_getElem? (i := 1) rfl)
theorem bg_31_2 : (Cond.methodLink RL 126 yX8_session) ∈ BIG := bgr_31 (List.mem_of_getElem? (i := 2) rfl)
theorem bg_31_3 : (Cond.instanceMethod yX8_session) ∈ BIG := bgr_31 (List.mem_of_getElem? (i := 3) rfl)
theorem bg_31_4 : (Cond.selects RX8 yX8_session yX8_session) ∈ BIG := bgr_31 (List.mem_of_getElem? (i := 4) rfl)
theorem bg_31_5 : (Cond.code yX8_session cX8_session 3 (some .long)) ∈ BIG := bgr_31 (List.mem_of_getElem? (i := 5) rfl)
theorem bg_31_6 : (Cond.constantLong RX8 284 (3)) ∈ BIG := bgr_31 (List.mem_of_getElem? (i := 6) rfl)
theorem bg_31_7 : (Cond.constantLong RX8 286 (-1)) ∈ BIG := bgr_31 (List.mem_of_getElem? (i := 7) rfl)
theorem bg_31_8 : (Cond.methodLink RL 127 yL_count) ∈ BIG := bgr_31 (List.mem_of_getElem? (i := 8) rfl)
theorem bg_31_9 : (Cond.static yL_count) ∈ BIG := bgr_31 (List.mem_of_getElem? (i := 9) rfl)
theorem bg_31_10 : (Cond.codeWith yL_count cL_count 4 (some .int) [(0, 9, 12, 13)]) ∈ BIG := bgr_31 (List.mem_of_getElem? (i := 10) rfl)
theorem bg_31_11 : (Cond.methodLink RL 53 yX7_count) ∈ BIG := bgr_31 (List.mem_of_getElem? (i := 11) rfl)
theorem bg_31_12 : (Cond.instanceMethod yX7_count) ∈ BIG := bgr_31 (List.mem_of_getElem? (i := 12) rfl)
theorem bg_31_13 : (Cond.selects RX7 yX7_count yX7_count) ∈ BIG := bgr_31 (List.mem_of_getElem? (i := 13) rfl)
theorem bg_31_14 : (Cond.code yX7_count cX7_count 2 (some .int)) ∈ BIG := bgr_31 (List.mem_of_getElem? (i := 14) rfl)
theorem bg_31_15 : (Cond.methodLink RX7 207 yX7_openSessions) ∈ BIG := bgr_31 (List.mem_of_getElem? (i := 15) rfl)
theorem bg_31_16 : (Cond.instanceMethod yX7_openSessions) ∈ BIG := bgr_31 (List.mem_of_getElem? (i := 16) rfl)
theorem bg_31_17 : (Cond.selects RX7 yX7_openSessions yX7_openSessions) ∈ BIG := bgr_31 (List.mem_of_getElem? (i := 17) rfl)
theorem bg_31_18 : (Cond.code yX7_openSessions cX7_openSessions 3 (some .int)) ∈ BIG := bgr_31 (List.mem_of_getElem? (i := 18) rfl)
theorem bg_31_19 : (Cond.methodLink RX7 210 yX2_liveOnes) ∈ BIG := bgr_31 (List.mem_of_getElem? (i := 19) rfl)
theorem bg_31_20 : (Cond.instanceMethod yX2_liveOnes) ∈ BIG := bgr_31 (List.mem_of_getElem? (i := 20) rfl)
theorem bg_31_21 : (Cond.selects RX2 yX2_liveOnes yX2_liveOnes) ∈ BIG := bgr_31 (List.mem_of_getElem? (i := 21) rfl)
theorem bg_31_22 : (Cond.code yX2_liveOnes cX2_liveOnes 7 (some .int)) ∈ BIG := bgr_31 (List.mem_of_getElem? (i := 22) rfl)
theorem bg_31_23 : (Cond.methodLink RL 129 yX8_count) ∈ BIG := bgr_31 (List.mem_of_getElem? (i := 23) rfl)
theorem bg_32_0 : (Cond.instanceMethod yX8_count) ∈ BIG := bgr_32 (List.mem_of_getElem? (i := 0) rfl)
theorem bg_32_1 : (Cond.selects RX8 yX8_count yX8_count) ∈ BIG := bgr_32 (List.mem_of_getElem? (i := 1) rfl)
theorem bg_32_2 : (Cond.code yX8_count cX8_count 4 (some .int)) ∈ BIG := bgr_32 (List.mem_of_getElem? (i := 2) rfl)
theorem bg_32_3 : (Cond.constantLong RX8 288 (6)) ∈ BIG := bgr_32 (List.mem_of_getElem? (i := 3) rfl)
theorem bg_32_4 : (Cond.methodLink RL 130 yL_octet) ∈ BIG := bgr_32 (List.mem_of_getElem? (i := 4) rfl)
theorem bg_32_5 : (Cond.static yL_octet) ∈ BIG := bgr_32 (List.mem_of_getElem? (i := 5) rfl)
theorem bg_32_6 : (Cond.codeWith yL_octet cL_octet 4 (some .int) [(0, 9, 12, 13)]) ∈ BIG := bgr_32 (List.mem_of_getElem? (i := 6) rfl)
theorem bg_32_7 : (Cond.methodLink RL 56 yX7_octet) ∈ BIG := bgr_32 (List.mem_of_getElem? (i := 7) rfl)
theorem bg_32_8 : (Cond.instanceMethod yX7_octet) ∈ BIG := bgr_32 (List.mem_of_getElem? (i := 8) rfl)
theorem bg_32_9 : (Cond.selects RX7 yX7_octet yX7_octet) ∈ BIG := bgr_32 (List.mem_of_getElem? (i := 9) rfl)
theorem bg_32_10 : (Cond.code yX7_octet cX7_octet 2 (some .int)) ∈ BIG := bgr_32 (List.mem_of_getElem? (i := 10) rfl)
theorem bg_32_11 : (Cond.methodLink RL 132 yX8_octet) ∈ BIG := bgr_32 (List.mem_of_getElem? (i := 11) rfl)
theorem bg_32_12 : (Cond.instanceMethod yX8_octet) ∈ BIG := bgr_32 (List.mem_of_getElem? (i := 12) rfl)
theorem bg_32_13 : (Cond.selects RX8 yX8_octet yX8_octet) ∈ BIG := bgr_32 (List.mem_of_getElem? (i := 13) rfl)
theorem bg_32_14 : (Cond.code yX8_octet cX8_octet 3 (some .int)) ∈ BIG := bgr_32 (List.mem_of_getElem? (i := 14) rfl)
theorem bg_32_15 : (Cond.constantLong RX8 290 (31)) ∈ BIG := bgr_32 (List.mem_of_getElem? (i := 15) rfl)
end
section
theorem dX0_encode_0 : decode cX0_encode 0 = .ok (.bipush 8, 2) := by decide +kernel
theorem dX0_encode_2 : decode cX0_encode 2 = .ok (.iload_n 1, 1) := by decide +kernel
theorem dX0_encode_3 : decode cX0_encode 3 = .ok (.imul, 1) := by decide +kernel
theorem dX0_encode_4 : decode cX0_encode 4 = .ok (.iconst 5, 1) := by decide +kernel
theorem dX0_encode_5 : decode cX0_encode 5 = .ok (.iadd, 1) := by decide +kernel
theorem dX0_encode_6 : decode cX0_encode 6 = .ok (.bipush 6, 2) := by decide +kernel
theorem dX0_encode_8 : decode cX0_encode 8 = .ok (.idiv, 1) := by decide +kernel
theorem dX0_encode_9 : decode cX0_encode 9 = .ok (.istore_n 3, 1) := by decide +kernel
theorem dX0_encode_10 : decode cX0_encode 10 = .ok (.aload_n 2, 1) := by decide +kernel
theorem dX0_encode_11 : decode cX0_encode 11 = .ok (.iconst 0, 1) := by decide +kernel
theorem dX0_encode_12 : decode cX0_encode 12 = .ok (.putfield 9, 3) := by decide +kernel
theorem dX0_encode_15 : decode cX0_encode 15 = .ok (.iconst 0, 1) := by decide +kernel
theorem dX0_encode_16 : decode cX0_encode 16 = .ok (.istore 4, 2) := by decide +kernel
theorem dX0_encode_18 : decode cX0_encode 18 = .ok (.iload 4, 2) := by decide +kernel
theorem dX0_encode_20 : decode cX0_encode 20 = .ok (.iload_n 3, 1) := by decide +kernel
theorem dX0_encode_21 : decode cX0_encode 21 = .ok (.if_icmp .ge 78, 3) := by decide +kernel
theorem dX0_encode_24 : decode cX0_encode 24 = .ok (.bipush 6, 2) := by decide +kernel
theorem dX0_encode_26 : decode cX0_encode 26 = .ok (.iload 4, 2) := by decide +kernel
theorem dX0_encode_28 : decode cX0_encode 28 = .ok (.imul, 1) := by decide +kernel
theorem dX0_encode_29 : decode cX0_encode 29 = .ok (.istore 5, 2) := by decide +kernel
theorem dX0_encode_31 : decode cX0_encode 31 = .ok (.iload 5, 2) := by decide +kernel
theorem dX0_encode_33 : decode cX0_encode 33 = .ok (.bipush 8, 2) := by decide +kernel
theorem dX0_encode_35 : decode cX0_encode 35 = .ok (.idiv, 1) := by decide +kernel
theorem dX0_encode_36 : decode cX0_encode 36 = .ok (.istore 6, 2) := by decide +kernel
theorem dX0_encode_38 : decode cX0_encode 38 = .ok (.iload 6, 2) := by decide +kernel
theorem dX0_encode_40 : decode cX0_encode 40 = .ok (.iconst 1, 1) := by decide +kernel
theorem dX0_encode_41 : decode cX0_encode 41 = .ok (.iadd, 1) := by decide +kernel
theorem dX0_encode_42 : decode cX0_encode 42 = .ok (.iload_n 1, 1) := by decide +kernel
theorem dX0_encode_43 : decode cX0_encode 43 = .ok (.if_icmp .ge 12, 3) := by decide +kernel
theorem dX0_encode_46 : decode cX0_encode 46 = .ok (.aload_n 0, 1) := by decide +kernel
theorem dX0_encode_47 : decode cX0_encode 47 = .ok (.iload 6, 2) := by decide +kernel
theorem dX0_encode_49 : decode cX0_encode 49 = .ok (.iconst 1, 1) := by decide +kernel
theorem dX0_encode_50 : decode cX0_encode 50 = .ok (.iadd, 1) := by decide +kernel
theorem dX0_encode_51 : decode cX0_encode 51 = .ok (.iaload, 1) := by decide +kernel
theorem dX0_encode_52 : decode cX0_encode 52 = .ok (.goto 4, 3) := by decide +kernel
theorem dX0_encode_55 : decode cX0_encode 55 = .ok (.iconst 0, 1) := by decide +kernel
theorem dX0_encode_56 : decode cX0_encode 56 = .ok (.istore 7, 2) := by decide +kernel
theorem dX0_encode_58 : decode cX0_encode 58 = .ok (.aload_n 0, 1) := by decide +kernel
theorem dX0_encode_59 : decode cX0_encode 59 = .ok (.iload 6, 2) := by decide +kernel
theorem dX0_encode_61 : decode cX0_encode 61 = .ok (.iaload, 1) := by decide +kernel
theorem dX0_encode_62 : decode cX0_encode 62 = .ok (.bipush 8, 2) := by decide +kernel
theorem dX0_encode_64 : decode cX0_encode 64 = .ok (.ishl, 1) := by decide +kernel
theorem dX0_encode_65 : decode cX0_encode 65 = .ok (.iload 7, 2) := by decide +kernel
theorem dX0_encode_67 : decode cX0_encode 67 = .ok (.ior, 1) := by decide +kernel
theorem dX0_encode_68 : decode cX0_encode 68 = .ok (.istore 8, 2) := by decide +kernel
theorem dX0_encode_70 : decode cX0_encode 70 = .ok (.aload_n 2, 1) := by decide +kernel
theorem dX0_encode_71 : decode cX0_encode 71 = .ok (.ldc 17, 2) := by decide +kernel
theorem dX0_encode_73 : decode cX0_encode 73 = .ok (.iload 8, 2) := by decide +kernel
theorem dX0_encode_75 : decode cX0_encode 75 = .ok (.bipush 10, 2) := by decide +kernel
theorem dX0_encode_77 : decode cX0_encode 77 = .ok (.iload 5, 2) := by decide +kernel
theorem dX0_encode_79 : decode cX0_encode 79 = .ok (.bipush 8, 2) := by decide +kernel
theorem dX0_encode_81 : decode cX0_encode 81 = .ok (.irem, 1) := by decide +kernel
theorem dX0_encode_82 : decode cX0_encode 82 = .ok (.isub, 1) := by decide +kernel
theorem dX0_encode_83 : decode cX0_encode 83 = .ok (.iushr, 1) := by decide +kernel
theorem dX0_encode_84 : decode cX0_encode 84 = .ok (.bipush 63, 2) := by decide +kernel
theorem dX0_encode_86 : decode cX0_encode 86 = .ok (.iand, 1) := by decide +kernel
theorem dX0_encode_87 : decode cX0_encode 87 = .ok (.invokevirtual 19, 3) := by decide +kernel
theorem dX0_encode_90 : decode cX0_encode 90 = .ok (.invokevirtual 25, 3) := by decide +kernel
theorem dX0_encode_93 : decode cX0_encode 93 = .ok (.iinc 4 1, 3) := by decide +kernel
theorem dX0_encode_96 : decode cX0_encode 96 = .ok (.goto (-78), 3) := by decide +kernel
theorem dX0_encode_99 : decode cX0_encode 99 = .ok (.return_, 1) := by decide +kernel
theorem dX0_decodeCookie_0 : decode cX0_decodeCookie 0 = .ok (.aload_n 0, 1) := by decide +kernel
theorem dX0_decodeCookie_1 : decode cX0_decodeCookie 1 = .ok (.invokestatic 29, 3) := by decide +kernel
theorem dX0_decodeCookie_4 : decode cX0_decodeCookie 4 = .ok (.ifCond .ne 5, 3) := by decide +kernel
theorem dX0_decodeCookie_7 : decode cX0_decodeCookie 7 = .ok (.iconst 0, 1) := by decide +kernel
theorem dX0_decodeCookie_8 : decode cX0_decodeCookie 8 = .ok (.ireturn, 1) := by decide +kernel
theorem dX0_decodeCookie_9 : decode cX0_decodeCookie 9 = .ok (.iconst 0, 1) := by decide +kernel
theorem dX0_decodeCookie_10 : decode cX0_decodeCookie 10 = .ok (.istore_n 2, 1) := by decide +kernel
theorem dX0_decodeCookie_11 : decode cX0_decodeCookie 11 = .ok (.iload_n 2, 1) := by decide +kernel
theorem dX0_decodeCookie_12 : decode cX0_decodeCookie 12 = .ok (.bipush 22, 2) := by decide +kernel
theorem dX0_decodeCookie_14 : decode cX0_decodeCookie 14 = .ok (.if_icmp .ge 64, 3) := by decide +kernel
theorem dX0_decodeCookie_17 : decode cX0_decodeCookie 17 = .ok (.bipush 8, 2) := by decide +kernel
theorem dX0_decodeCookie_19 : decode cX0_decodeCookie 19 = .ok (.iload_n 2, 1) := by decide +kernel
theorem dX0_decodeCookie_20 : decode cX0_decodeCookie 20 = .ok (.imul, 1) := by decide +kernel
theorem dX0_decodeCookie_21 : decode cX0_decodeCookie 21 = .ok (.istore_n 3, 1) := by decide +kernel
theorem dX0_decodeCookie_22 : decode cX0_decodeCookie 22 = .ok (.iload_n 3, 1) := by decide +kernel
theorem dX0_decodeCookie_23 : decode cX0_decodeCookie 23 = .ok (.bipush 6, 2) := by decide +kernel
theorem dX0_decodeCookie_25 : decode cX0_decodeCookie 25 = .ok (.idiv, 1) := by decide +kernel
theorem dX0_decodeCookie_26 : decode cX0_decodeCookie 26 = .ok (.istore 4, 2) := by decide +kernel
theorem dX0_decodeCookie_28 : decode cX0_decodeCookie 28 = .ok (.aload_n 0, 1) := by decide +kernel
theorem dX0_decodeCookie_29 : decode cX0_decodeCookie 29 = .ok (.getfield 33, 3) := by decide +kernel
theorem dX0_decodeCookie_32 : decode cX0_decodeCookie 32 = .ok (.iload 4, 2) := by decide +kernel
theorem dX0_decodeCookie_34 : decode cX0_decodeCookie 34 = .ok (.iaload, 1) := by decide +kernel
theorem dX0_decodeCookie_35 : decode cX0_decodeCookie 35 = .ok (.invokestatic 37, 3) := by decide +kernel
theorem dX0_decodeCookie_38 : decode cX0_decodeCookie 38 = .ok (.bipush 6, 2) := by decide +kernel
theorem dX0_decodeCookie_40 : decode cX0_decodeCookie 40 = .ok (.ishl, 1) := by decide +kernel
theorem dX0_decodeCookie_41 : decode cX0_decodeCookie 41 = .ok (.aload_n 0, 1) := by decide +kernel
theorem dX0_decodeCookie_42 : decode cX0_decodeCookie 42 = .ok (.getfield 33, 3) := by decide +kernel
theorem dX0_decodeCookie_45 : decode cX0_decodeCookie 45 = .ok (.iload 4, 2) := by decide +kernel
theorem dX0_decodeCookie_47 : decode cX0_decodeCookie 47 = .ok (.iconst 1, 1) := by decide +kernel
theorem dX0_decodeCookie_48 : decode cX0_decodeCookie 48 = .ok (.iadd, 1) := by decide +kernel
theorem dX0_decodeCookie_49 : decode cX0_decodeCookie 49 = .ok (.iaload, 1) := by decide +kernel
theorem dX0_decodeCookie_50 : decode cX0_decodeCookie 50 = .ok (.invokestatic 37, 3) := by decide +kernel
theorem dX0_decodeCookie_53 : decode cX0_decodeCookie 53 = .ok (.ior, 1) := by decide +kernel
theorem dX0_decodeCookie_54 : decode cX0_decodeCookie 54 = .ok (.istore 5, 2) := by decide +kernel
theorem dX0_decodeCookie_56 : decode cX0_decodeCookie 56 = .ok (.aload_n 1, 1) := by decide +kernel
theorem dX0_decodeCookie_57 : decode cX0_decodeCookie 57 = .ok (.iload_n 2, 1) := by decide +kernel
theorem dX0_decodeCookie_58 : decode cX0_decodeCookie 58 = .ok (.iload 5, 2) := by decide +kernel
theorem dX0_decodeCookie_60 : decode cX0_decodeCookie 60 = .ok (.iconst 4, 1) := by decide +kernel
theorem dX0_decodeCookie_61 : decode cX0_decodeCookie 61 = .ok (.iload_n 3, 1) := by decide +kernel
theorem dX0_decodeCookie_62 : decode cX0_decodeCookie 62 = .ok (.bipush 6, 2) := by decide +kernel
theorem dX0_decodeCookie_64 : decode cX0_decodeCookie 64 = .ok (.irem, 1) := by decide +kernel
theorem dX0_decodeCookie_65 : decode cX0_decodeCookie 65 = .ok (.isub, 1) := by decide +kernel
theorem dX0_decodeCookie_66 : decode cX0_decodeCookie 66 = .ok (.iushr, 1) := by decide +kernel
theorem dX0_decodeCookie_67 : decode cX0_decodeCookie 67 = .ok (.sipush 255, 3) := by decide +kernel
theorem dX0_decodeCookie_70 : decode cX0_decodeCookie 70 = .ok (.iand, 1) := by decide +kernel
theorem dX0_decodeCookie_71 : decode cX0_decodeCookie 71 = .ok (.iastore, 1) := by decide +kernel
theorem dX0_decodeCookie_72 : decode cX0_decodeCookie 72 = .ok (.iinc 2 1, 3) := by decide +kernel
theorem dX0_decodeCookie_75 : decode cX0_decodeCookie 75 = .ok (.goto (-64), 3) := by decide +kernel
theorem dX0_decodeCookie_78 : decode cX0_decodeCookie 78 = .ok (.iconst 1, 1) := by decide +kernel
theorem dX0_decodeCookie_79 : decode cX0_decodeCookie 79 = .ok (.ireturn, 1) := by decide +kernel
theorem dX0_isCookieForm_0 : decode cX0_isCookieForm 0 = .ok (.aload_n 0, 1) := by decide +kernel
theorem dX0_isCookieForm_1 : decode cX0_isCookieForm 1 = .ok (.getfield 9, 3) := by decide +kernel
theorem dX0_isCookieForm_4 : decode cX0_isCookieForm 4 = .ok (.bipush 30, 2) := by decide +kernel
theorem dX0_isCookieForm_6 : decode cX0_isCookieForm 6 = .ok (.if_icmp .eq 5, 3) := by decide +kernel
theorem dX0_isCookieForm_9 : decode cX0_isCookieForm 9 = .ok (.iconst 0, 1) := by decide +kernel
theorem dX0_isCookieForm_10 : decode cX0_isCookieForm 10 = .ok (.ireturn, 1) := by decide +kernel
theorem dX0_isCookieForm_11 : decode cX0_isCookieForm 11 = .ok (.iconst 0, 1) := by decide +kernel
theorem dX0_isCookieForm_12 : decode cX0_isCookieForm 12 = .ok (.istore_n 1, 1) := by decide +kernel
theorem dX0_isCookieForm_13 : decode cX0_isCookieForm 13 = .ok (.iload_n 1, 1) := by decide +kernel
theorem dX0_isCookieForm_14 : decode cX0_isCookieForm 14 = .ok (.bipush 30, 2) := by decide +kernel
theorem dX0_isCookieForm_16 : decode cX0_isCookieForm 16 = .ok (.if_icmp .ge 23, 3) := by decide +kernel
theorem dX0_isCookieForm_19 : decode cX0_isCookieForm 19 = .ok (.aload_n 0, 1) := by decide +kernel
theorem dX0_isCookieForm_20 : decode cX0_isCookieForm 20 = .ok (.getfield 33, 3) := by decide +kernel
theorem dX0_isCookieForm_23 : decode cX0_isCookieForm 23 = .ok (.iload_n 1, 1) := by decide +kernel
theorem dX0_isCookieForm_24 : decode cX0_isCookieForm 24 = .ok (.iaload, 1) := by decide +kernel
theorem dX0_isCookieForm_25 : decode cX0_isCookieForm 25 = .ok (.invokestatic 37, 3) := by decide +kernel
theorem dX0_isCookieForm_28 : decode cX0_isCookieForm 28 = .ok (.ifCond .ge 5, 3) := by decide +kernel
theorem dX0_isCookieForm_31 : decode cX0_isCookieForm 31 = .ok (.iconst 0, 1) := by decide +kernel
theorem dX0_isCookieForm_32 : decode cX0_isCookieForm 32 = .ok (.ireturn, 1) := by decide +kernel
theorem dX0_isCookieForm_33 : decode cX0_isCookieForm 33 = .ok (.iinc 1 1, 3) := by decide +kernel
theorem dX0_isCookieForm_36 : decode cX0_isCookieForm 36 = .ok (.goto (-23), 3) := by decide +kernel
theorem dX0_isCookieForm_39 : decode cX0_isCookieForm 39 = .ok (.aload_n 0, 1) := by decide +kernel
theorem dX0_isCookieForm_40 : decode cX0_isCookieForm 40 = .ok (.getfield 33, 3) := by decide +kernel
theorem dX0_isCookieForm_43 : decode cX0_isCookieForm 43 = .ok (.bipush 29, 2) := by decide +kernel
theorem dX0_isCookieForm_45 : decode cX0_isCookieForm 45 = .ok (.iaload, 1) := by decide +kernel
theorem dX0_isCookieForm_46 : decode cX0_isCookieForm 46 = .ok (.invokestatic 37, 3) := by decide +kernel
theorem dX0_isCookieForm_49 : decode cX0_isCookieForm 49 = .ok (.bipush 15, 2) := by decide +kernel
theorem dX0_isCookieForm_51 : decode cX0_isCookieForm 51 = .ok (.iand, 1) := by decide +kernel
theorem dX0_isCookieForm_52 : decode cX0_isCookieForm 52 = .ok (.ifCond .ne 7, 3) := by decide +kernel
theorem dX0_isCookieForm_55 : decode cX0_isCookieForm 55 = .ok (.iconst 1, 1) := by decide +kernel
theorem dX0_isCookieForm_56 : decode cX0_isCookieForm 56 = .ok (.goto 4, 3) := by decide +kernel
theorem dX0_isCookieForm_59 : decode cX0_isCookieForm 59 = .ok (.iconst 0, 1) := by decide +kernel
theorem dX0_isCookieForm_60 : decode cX0_isCookieForm 60 = .ok (.ireturn, 1) := by decide +kernel
theorem dX0_sixBits_0 : decode cX0_sixBits 0 = .ok (.ldc 17, 2) := by decide +kernel
theorem dX0_sixBits_2 : decode cX0_sixBits 2 = .ok (.iload_n 0, 1) := by decide +kernel
theorem dX0_sixBits_3 : decode cX0_sixBits 3 = .ok (.i2c, 1) := by decide +kernel
theorem dX0_sixBits_4 : decode cX0_sixBits 4 = .ok (.invokevirtual 41, 3) := by decide +kernel
theorem dX0_sixBits_7 : decode cX0_sixBits 7 = .ok (.ireturn, 1) := by decide +kernel
theorem dX1_init_0 : decode cX1_init 0 = .ok (.aload_n 0, 1) := by decide +kernel
theorem dX1_init_1 : decode cX1_init 1 = .ok (.invokespecial 1, 3) := by decide +kernel
theorem dX1_init_4 : decode cX1_init 4 = .ok (.aload_n 0, 1) := by decide +kernel
theorem dX1_init_5 : decode cX1_init 5 = .ok (.bipush 16, 2) := by decide +kernel
theorem dX1_init_7 : decode cX1_init 7 = .ok (.newarray .int, 2) := by decide +kernel
theorem dX1_init_9 : decode cX1_init 9 = .ok (.putfield 9, 3) := by decide +kernel
theorem dX1_init_12 : decode cX1_init 12 = .ok (.aload_n 0, 1) := by decide +kernel
theorem dX1_init_13 : decode cX1_init 13 = .ok (.iconst 0, 1) := by decide +kernel
theorem dX1_init_14 : decode cX1_init 14 = .ok (.putfield 13, 3) := by decide +kernel
theorem dX1_init_17 : decode cX1_init 17 = .ok (.aload_n 0, 1) := by decide +kernel
theorem dX1_init_18 : decode cX1_init 18 = .ok (.lconst 0, 1) := by decide +kernel
theorem dX1_init_19 : decode cX1_init 19 = .ok (.putfield 17, 3) := by decide +kernel
theorem dX1_init_22 : decode cX1_init 22 = .ok (.return_, 1) := by decide +kernel
theorem dX1_fill_0 : decode cX1_fill 0 = .ok (.iconst 0, 1) := by decide +kernel
theorem dX1_fill_1 : decode cX1_fill 1 = .ok (.istore 5, 2) := by decide +kernel
theorem dX1_fill_3 : decode cX1_fill 3 = .ok (.iload 5, 2) := by decide +kernel
theorem dX1_fill_5 : decode cX1_fill 5 = .ok (.iconst 4, 1) := by decide +kernel
theorem dX1_fill_6 : decode cX1_fill 6 = .ok (.if_icmp .ge 70, 3) := by decide +kernel
theorem dX1_fill_9 : decode cX1_fill 9 = .ok (.aload_n 0, 1) := by decide +kernel
theorem dX1_fill_10 : decode cX1_fill 10 = .ok (.getfield 9, 3) := by decide +kernel
theorem dX1_fill_13 : decode cX1_fill 13 = .ok (.iload 5, 2) := by decide +kernel
theorem dX1_fill_15 : decode cX1_fill 15 = .ok (.iload_n 1, 1) := by decide +kernel
theorem dX1_fill_16 : decode cX1_fill 16 = .ok (.iload 5, 2) := by decide +kernel
theorem dX1_fill_18 : decode cX1_fill 18 = .ok (.invokestatic 21, 3) := by decide +kernel
theorem dX1_fill_21 : decode cX1_fill 21 = .ok (.iastore, 1) := by decide +kernel
theorem dX1_fill_22 : decode cX1_fill 22 = .ok (.aload_n 0, 1) := by decide +kernel
theorem dX1_fill_23 : decode cX1_fill 23 = .ok (.getfield 9, 3) := by decide +kernel
theorem dX1_fill_26 : decode cX1_fill 26 = .ok (.iconst 4, 1) := by decide +kernel
theorem dX1_fill_27 : decode cX1_fill 27 = .ok (.iload 5, 2) := by decide +kernel
theorem dX1_fill_29 : decode cX1_fill 29 = .ok (.iadd, 1) := by decide +kernel
theorem dX1_fill_30 : decode cX1_fill 30 = .ok (.iload_n 2, 1) := by decide +kernel
theorem dX1_fill_31 : decode cX1_fill 31 = .ok (.iload 5, 2) := by decide +kernel
theorem dX1_fill_33 : decode cX1_fill 33 = .ok (.invokestatic 21, 3) := by decide +kernel
theorem dX1_fill_36 : decode cX1_fill 36 = .ok (.iastore, 1) := by decide +kernel
theorem dX1_fill_37 : decode cX1_fill 37 = .ok (.aload_n 0, 1) := by decide +kernel
theorem dX1_fill_38 : decode cX1_fill 38 = .ok (.getfield 9, 3) := by decide +kernel
theorem dX1_fill_41 : decode cX1_fill 41 = .ok (.bipush 8, 2) := by decide +kernel
theorem dX1_fill_43 : decode cX1_fill 43 = .ok (.iload 5, 2) := by decide +kernel
theorem dX1_fill_45 : decode cX1_fill 45 = .ok (.iadd, 1) := by decide +kernel
theorem dX1_fill_46 : decode cX1_fill 46 = .ok (.iload_n 3, 1) := by decide +kernel
theorem dX1_fill_47 : decode cX1_fill 47 = .ok (.iload 5, 2) := by decide +kernel
theorem dX1_fill_49 : decode cX1_fill 49 = .ok (.invokestatic 21, 3) := by decide +kernel
theorem dX1_fill_52 : decode cX1_fill 52 = .ok (.iastore, 1) := by decide +kernel
theorem dX1_fill_53 : decode cX1_fill 53 = .ok (.aload_n 0, 1) := by decide +kernel
theorem dX1_fill_54 : decode cX1_fill 54 = .ok (.getfield 9, 3) := by decide +kernel
theorem dX1_fill_57 : decode cX1_fill 57 = .ok (.bipush 12, 2) := by decide +kernel
theorem dX1_fill_59 : decode cX1_fill 59 = .ok (.iload 5, 2) := by decide +kernel
theorem dX1_fill_61 : decode cX1_fill 61 = .ok (.iadd, 1) := by decide +kernel
theorem dX1_fill_62 : decode cX1_fill 62 = .ok (.iload 4, 2) := by decide +kernel
theorem dX1_fill_64 : decode cX1_fill 64 = .ok (.iload 5, 2) := by decide +kernel
theorem dX1_fill_66 : decode cX1_fill 66 = .ok (.invokestatic 21, 3) := by decide +kernel
theorem dX1_fill_69 : decode cX1_fill 69 = .ok (.iastore, 1) := by decide +kernel
theorem dX1_fill_70 : decode cX1_fill 70 = .ok (.iinc 5 1, 3) := by decide +kernel
theorem dX1_fill_73 : decode cX1_fill 73 = .ok (.goto (-70), 3) := by decide +kernel
theorem dX1_fill_76 : decode cX1_fill 76 = .ok (.return_, 1) := by decide +kernel
theorem dX2_init_0 : decode cX2_init 0 = .ok (.aload_n 0, 1) := by decide +kernel
theorem dX2_init_1 : decode cX2_init 1 = .ok (.invokespecial 1, 3) := by decide +kernel
theorem dX2_init_4 : decode cX2_init 4 = .ok (.aload_n 0, 1) := by decide +kernel
theorem dX2_init_5 : decode cX2_init 5 = .ok (.iconst 4, 1) := by decide +kernel
theorem dX2_init_6 : decode cX2_init 6 = .ok (.anewarray 9, 3) := by decide +kernel
theorem dX2_init_9 : decode cX2_init 9 = .ok (.putfield 11, 3) := by decide +kernel
theorem dX2_init_12 : decode cX2_init 12 = .ok (.aload_n 0, 1) := by decide +kernel
theorem dX2_init_13 : decode cX2_init 13 = .ok (.iconst 1, 1) := by decide +kernel
theorem dX2_init_14 : decode cX2_init 14 = .ok (.putfield 15, 3) := by decide +kernel
theorem dX2_init_17 : decode cX2_init 17 = .ok (.aload_n 0, 1) := by decide +kernel
theorem dX2_init_18 : decode cX2_init 18 = .ok (.iconst 0, 1) := by decide +kernel
theorem dX2_init_19 : decode cX2_init 19 = .ok (.putfield 19, 3) := by decide +kernel
theorem dX2_init_22 : decode cX2_init 22 = .ok (.iconst 0, 1) := by decide +kernel
theorem dX2_init_23 : decode cX2_init 23 = .ok (.istore_n 1, 1) := by decide +kernel
theorem dX2_init_24 : decode cX2_init 24 = .ok (.iload_n 1, 1) := by decide +kernel
theorem dX2_init_25 : decode cX2_init 25 = .ok (.iconst 4, 1) := by decide +kernel
theorem dX2_init_26 : decode cX2_init 26 = .ok (.if_icmp .ge 22, 3) := by decide +kernel
theorem dX2_init_29 : decode cX2_init 29 = .ok (.aload_n 0, 1) := by decide +kernel
theorem dX2_init_30 : decode cX2_init 30 = .ok (.getfield 11, 3) := by decide +kernel
theorem dX2_init_33 : decode cX2_init 33 = .ok (.iload_n 1, 1) := by decide +kernel
theorem dX2_init_34 : decode cX2_init 34 = .ok (.new 9, 3) := by decide +kernel
theorem dX2_init_37 : decode cX2_init 37 = .ok (.dup, 1) := by decide +kernel
theorem dX2_init_38 : decode cX2_init 38 = .ok (.invokespecial 22, 3) := by decide +kernel
theorem dX2_init_41 : decode cX2_init 41 = .ok (.aastore, 1) := by decide +kernel
theorem dX2_init_42 : decode cX2_init 42 = .ok (.iinc 1 1, 3) := by decide +kernel
theorem dX2_init_45 : decode cX2_init 45 = .ok (.goto (-21), 3) := by decide +kernel
theorem dX2_init_48 : decode cX2_init 48 = .ok (.return_, 1) := by decide +kernel
theorem dX2_newest_0 : decode cX2_newest 0 = .ok (.aload_n 0, 1) := by decide +kernel
theorem dX2_newest_1 : decode cX2_newest 1 = .ok (.getfield 11, 3) := by decide +kernel
theorem dX2_newest_4 : decode cX2_newest 4 = .ok (.aload_n 0, 1) := by decide +kernel
theorem dX2_newest_5 : decode cX2_newest 5 = .ok (.getfield 19, 3) := by decide +kernel
theorem dX2_newest_8 : decode cX2_newest 8 = .ok (.aaload, 1) := by decide +kernel
theorem dX2_newest_9 : decode cX2_newest 9 = .ok (.areturn, 1) := by decide +kernel
theorem dX2_advance_0 : decode cX2_advance 0 = .ok (.aload_n 0, 1) := by decide +kernel
theorem dX2_advance_1 : decode cX2_advance 1 = .ok (.getfield 11, 3) := by decide +kernel
theorem dX2_advance_4 : decode cX2_advance 4 = .ok (.aload_n 0, 1) := by decide +kernel
theorem dX2_advance_5 : decode cX2_advance 5 = .ok (.getfield 19, 3) := by decide +kernel
theorem dX2_advance_8 : decode cX2_advance 8 = .ok (.aaload, 1) := by decide +kernel
theorem dX2_advance_9 : decode cX2_advance 9 = .ok (.astore_n 3, 1) := by decide +kernel
theorem dX2_advance_10 : decode cX2_advance 10 = .ok (.aload_n 3, 1) := by decide +kernel
theorem dX2_advance_11 : decode cX2_advance 11 = .ok (.lload_n 1, 1) := by decide +kernel
theorem dX2_advance_12 : decode cX2_advance 12 = .ok (.putfield 23, 3) := by decide +kernel
theorem dX2_advance_15 : decode cX2_advance 15 = .ok (.aload_n 0, 1) := by decide +kernel
theorem dX2_advance_16 : decode cX2_advance 16 = .ok (.aload_n 0, 1) := by decide +kernel
theorem dX2_advance_17 : decode cX2_advance 17 = .ok (.getfield 19, 3) := by decide +kernel
theorem dX2_advance_20 : decode cX2_advance 20 = .ok (.iconst 1, 1) := by decide +kernel
theorem dX2_advance_21 : decode cX2_advance 21 = .ok (.iadd, 1) := by decide +kernel
theorem dX2_advance_22 : decode cX2_advance 22 = .ok (.iconst 4, 1) := by decide +kernel
theorem dX2_advance_23 : decode cX2_advance 23 = .ok (.irem, 1) := by decide +kernel
theorem dX2_advance_24 : decode cX2_advance 24 = .ok (.putfield 19, 3) := by decide +kernel
theorem dX2_advance_27 : decode cX2_advance 27 = .ok (.aload_n 0, 1) := by decide +kernel
theorem dX2_advance_28 : decode cX2_advance 28 = .ok (.getfield 11, 3) := by decide +kernel
theorem dX2_advance_31 : decode cX2_advance 31 = .ok (.aload_n 0, 1) := by decide +kernel
theorem dX2_advance_32 : decode cX2_advance 32 = .ok (.getfield 19, 3) := by decide +kernel
theorem dX2_advance_35 : decode cX2_advance 35 = .ok (.aaload, 1) := by decide +kernel
theorem dX2_advance_36 : decode cX2_advance 36 = .ok (.aload_n 3, 1) := by decide +kernel
theorem dX2_advance_37 : decode cX2_advance 37 = .ok (.getfield 27, 3) := by decide +kernel
theorem dX2_advance_40 : decode cX2_advance 40 = .ok (.iconst 1, 1) := by decide +kernel
theorem dX2_advance_41 : decode cX2_advance 41 = .ok (.iadd, 1) := by decide +kernel
theorem dX2_advance_42 : decode cX2_advance 42 = .ok (.sipush 255, 3) := by decide +kernel
theorem dX2_advance_45 : decode cX2_advance 45 = .ok (.iand, 1) := by decide +kernel
theorem dX2_advance_46 : decode cX2_advance 46 = .ok (.putfield 27, 3) := by decide +kernel
theorem dX2_advance_49 : decode cX2_advance 49 = .ok (.aload_n 0, 1) := by decide +kernel
theorem dX2_advance_50 : decode cX2_advance 50 = .ok (.getfield 15, 3) := by decide +kernel
theorem dX2_advance_53 : decode cX2_advance 53 = .ok (.iconst 4, 1) := by decide +kernel
theorem dX2_advance_54 : decode cX2_advance 54 = .ok (.if_icmp .ge 13, 3) := by decide +kernel
theorem dX2_advance_57 : decode cX2_advance 57 = .ok (.aload_n 0, 1) := by decide +kernel
theorem dX2_advance_58 : decode cX2_advance 58 = .ok (.dup, 1) := by decide +kernel
theorem dX2_advance_59 : decode cX2_advance 59 = .ok (.getfield 15, 3) := by decide +kernel
theorem dX2_advance_62 : decode cX2_advance 62 = .ok (.iconst 1, 1) := by decide +kernel
theorem dX2_advance_63 : decode cX2_advance 63 = .ok (.iadd, 1) := by decide +kernel
theorem dX2_advance_64 : decode cX2_advance 64 = .ok (.putfield 15, 3) := by decide +kernel
theorem dX2_advance_67 : decode cX2_advance 67 = .ok (.return_, 1) := by decide +kernel
theorem dX2_isLive_0 : decode cX2_isLive 0 = .ok (.iload_n 1, 1) := by decide +kernel
theorem dX2_isLive_1 : decode cX2_isLive 1 = .ok (.aload_n 0, 1) := by decide +kernel
theorem dX2_isLive_2 : decode cX2_isLive 2 = .ok (.getfield 15, 3) := by decide +kernel
theorem dX2_isLive_5 : decode cX2_isLive 5 = .ok (.if_icmp .lt 5, 3) := by decide +kernel
theorem dX2_isLive_8 : decode cX2_isLive 8 = .ok (.iconst 0, 1) := by decide +kernel
theorem dX2_isLive_9 : decode cX2_isLive 9 = .ok (.ireturn, 1) := by decide +kernel
theorem dX2_isLive_10 : decode cX2_isLive 10 = .ok (.iload_n 1, 1) := by decide +kernel
theorem dX2_isLive_11 : decode cX2_isLive 11 = .ok (.aload_n 0, 1) := by decide +kernel
theorem dX2_isLive_12 : decode cX2_isLive 12 = .ok (.getfield 19, 3) := by decide +kernel
theorem dX2_isLive_15 : decode cX2_isLive 15 = .ok (.if_icmp .eq 20, 3) := by decide +kernel
theorem dX2_isLive_18 : decode cX2_isLive 18 = .ok (.lload_n 2, 1) := by decide +kernel
theorem dX2_isLive_19 : decode cX2_isLive 19 = .ok (.aload_n 0, 1) := by decide +kernel
theorem dX2_isLive_20 : decode cX2_isLive 20 = .ok (.getfield 11, 3) := by decide +kernel
theorem dX2_isLive_23 : decode cX2_isLive 23 = .ok (.iload_n 1, 1) := by decide +kernel
theorem dX2_isLive_24 : decode cX2_isLive 24 = .ok (.aaload, 1) := by decide +kernel
theorem dX2_isLive_25 : decode cX2_isLive 25 = .ok (.getfield 23, 3) := by decide +kernel
theorem dX2_isLive_28 : decode cX2_isLive 28 = .ok (.lsub, 1) := by decide +kernel
theorem dX2_isLive_29 : decode cX2_isLive 29 = .ok (.lload 4, 2) := by decide +kernel
theorem dX2_isLive_31 : decode cX2_isLive 31 = .ok (.lcmp, 1) := by decide +kernel
theorem dX2_isLive_32 : decode cX2_isLive 32 = .ok (.ifCond .ge 7, 3) := by decide +kernel
theorem dX2_isLive_35 : decode cX2_isLive 35 = .ok (.iconst 1, 1) := by decide +kernel
theorem dX2_isLive_36 : decode cX2_isLive 36 = .ok (.goto 4, 3) := by decide +kernel
theorem dX2_isLive_39 : decode cX2_isLive 39 = .ok (.iconst 0, 1) := by decide +kernel
theorem dX2_isLive_40 : decode cX2_isLive 40 = .ok (.ireturn, 1) := by decide +kernel
theorem dX2_liveKey_0 : decode cX2_liveKey 0 = .ok (.iconst 0, 1) := by decide +kernel
theorem dX2_liveKey_1 : decode cX2_liveKey 1 = .ok (.istore 6, 2) := by decide +kernel
theorem dX2_liveKey_3 : decode cX2_liveKey 3 = .ok (.iload 6, 2) := by decide +kernel
theorem dX2_liveKey_5 : decode cX2_liveKey 5 = .ok (.iconst 4, 1) := by decide +kernel
theorem dX2_liveKey_6 : decode cX2_liveKey 6 = .ok (.if_icmp .ge 43, 3) := by decide +kernel
theorem dX2_liveKey_9 : decode cX2_liveKey 9 = .ok (.aload_n 0, 1) := by decide +kernel
theorem dX2_liveKey_10 : decode cX2_liveKey 10 = .ok (.iload 6, 2) := by decide +kernel
theorem dX2_liveKey_12 : decode cX2_liveKey 12 = .ok (.lload_n 2, 1) := by decide +kernel
theorem dX2_liveKey_13 : decode cX2_liveKey 13 = .ok (.lload 4, 2) := by decide +kernel
theorem dX2_liveKey_15 : decode cX2_liveKey 15 = .ok (.invokevirtual 30, 3) := by decide +kernel
theorem dX2_liveKey_18 : decode cX2_liveKey 18 = .ok (.ifCond .eq 25, 3) := by decide +kernel
theorem dX2_liveKey_21 : decode cX2_liveKey 21 = .ok (.aload_n 0, 1) := by decide +kernel
theorem dX2_liveKey_22 : decode cX2_liveKey 22 = .ok (.getfield 11, 3) := by decide +kernel
theorem dX2_liveKey_25 : decode cX2_liveKey 25 = .ok (.iload 6, 2) := by decide +kernel
theorem dX2_liveKey_27 : decode cX2_liveKey 27 = .ok (.aaload, 1) := by decide +kernel
theorem dX2_liveKey_28 : decode cX2_liveKey 28 = .ok (.getfield 27, 3) := by decide +kernel
theorem dX2_liveKey_31 : decode cX2_liveKey 31 = .ok (.iload_n 1, 1) := by decide +kernel
theorem dX2_liveKey_32 : decode cX2_liveKey 32 = .ok (.if_icmp .ne 11, 3) := by decide +kernel
theorem dX2_liveKey_35 : decode cX2_liveKey 35 = .ok (.aload_n 0, 1) := by decide +kernel
theorem dX2_liveKey_36 : decode cX2_liveKey 36 = .ok (.getfield 11, 3) := by decide +kernel
theorem dX2_liveKey_39 : decode cX2_liveKey 39 = .ok (.iload 6, 2) := by decide +kernel
theorem dX2_liveKey_41 : decode cX2_liveKey 41 = .ok (.aaload, 1) := by decide +kernel
theorem dX2_liveKey_42 : decode cX2_liveKey 42 = .ok (.areturn, 1) := by decide +kernel
theorem dX2_liveKey_43 : decode cX2_liveKey 43 = .ok (.iinc 6 1, 3) := by decide +kernel
theorem dX2_liveKey_46 : decode cX2_liveKey 46 = .ok (.goto (-43), 3) := by decide +kernel
theorem dX2_liveKey_49 : decode cX2_liveKey 49 = .ok (.aconst_null, 1) := by decide +kernel
theorem dX2_liveKey_50 : decode cX2_liveKey 50 = .ok (.areturn, 1) := by decide +kernel
theorem dX2_liveOnes_0 : decode cX2_liveOnes 0 = .ok (.iconst 0, 1) := by decide +kernel
theorem dX2_liveOnes_1 : decode cX2_liveOnes 1 = .ok (.istore 5, 2) := by decide +kernel
theorem dX2_liveOnes_3 : decode cX2_liveOnes 3 = .ok (.iconst 0, 1) := by decide +kernel
theorem dX2_liveOnes_4 : decode cX2_liveOnes 4 = .ok (.istore 6, 2) := by decide +kernel
theorem dX2_liveOnes_6 : decode cX2_liveOnes 6 = .ok (.iload 6, 2) := by decide +kernel
theorem dX2_liveOnes_8 : decode cX2_liveOnes 8 = .ok (.iconst 4, 1) := by decide +kernel
theorem dX2_liveOnes_9 : decode cX2_liveOnes 9 = .ok (.if_icmp .ge 23, 3) := by decide +kernel
theorem dX2_liveOnes_12 : decode cX2_liveOnes 12 = .ok (.aload_n 0, 1) := by decide +kernel
theorem dX2_liveOnes_13 : decode cX2_liveOnes 13 = .ok (.iload 6, 2) := by decide +kernel
theorem dX2_liveOnes_15 : decode cX2_liveOnes 15 = .ok (.lload_n 1, 1) := by decide +kernel
theorem dX2_liveOnes_16 : decode cX2_liveOnes 16 = .ok (.lload_n 3, 1) := by decide +kernel
theorem dX2_liveOnes_17 : decode cX2_liveOnes 17 = .ok (.invokevirtual 30, 3) := by decide +kernel
theorem dX2_liveOnes_20 : decode cX2_liveOnes 20 = .ok (.ifCond .eq 6, 3) := by decide +kernel
theorem dX2_liveOnes_23 : decode cX2_liveOnes 23 = .ok (.iinc 5 1, 3) := by decide +kernel
theorem dX2_liveOnes_26 : decode cX2_liveOnes 26 = .ok (.iinc 6 1, 3) := by decide +kernel
theorem dX2_liveOnes_29 : decode cX2_liveOnes 29 = .ok (.goto (-23), 3) := by decide +kernel
theorem dX2_liveOnes_32 : decode cX2_liveOnes 32 = .ok (.iload 5, 2) := by decide +kernel
theorem dX2_liveOnes_34 : decode cX2_liveOnes 34 = .ok (.ireturn, 1) := by decide +kernel
theorem dX3_init_0 : decode cX3_init 0 = .ok (.aload_n 0, 1) := by decide +kernel
theorem dX3_init_1 : decode cX3_init 1 = .ok (.invokespecial 1, 3) := by decide +kernel
theorem dX3_init_4 : decode cX3_init 4 = .ok (.aload_n 0, 1) := by decide +kernel
theorem dX3_init_5 : decode cX3_init 5 = .ok (.bipush 32, 2) := by decide +kernel
theorem dX3_init_7 : decode cX3_init 7 = .ok (.newarray .int, 2) := by decide +kernel
theorem dX3_init_9 : decode cX3_init 9 = .ok (.putfield 9, 3) := by decide +kernel
theorem dX3_init_12 : decode cX3_init 12 = .ok (.aload_n 0, 1) := by decide +kernel
theorem dX3_init_13 : decode cX3_init 13 = .ok (.sipush 128, 3) := by decide +kernel
theorem dX3_init_16 : decode cX3_init 16 = .ok (.newarray .int, 2) := by decide +kernel
theorem dX3_init_18 : decode cX3_init 18 = .ok (.putfield 13, 3) := by decide +kernel
theorem dX3_init_21 : decode cX3_init 21 = .ok (.aload_n 0, 1) := by decide +kernel
theorem dX3_init_22 : decode cX3_init 22 = .ok (.bipush 64, 2) := by decide +kernel
theorem dX3_init_24 : decode cX3_init 24 = .ok (.newarray .int, 2) := by decide +kernel
theorem dX3_init_26 : decode cX3_init 26 = .ok (.putfield 16, 3) := by decide +kernel
theorem dX3_init_29 : decode cX3_init 29 = .ok (.aload_n 0, 1) := by decide +kernel
theorem dX3_init_30 : decode cX3_init 30 = .ok (.bipush 8, 2) := by decide +kernel
theorem dX3_init_32 : decode cX3_init 32 = .ok (.newarray .int, 2) := by decide +kernel
theorem dX3_init_34 : decode cX3_init 34 = .ok (.putfield 19, 3) := by decide +kernel
theorem dX3_init_37 : decode cX3_init 37 = .ok (.return_, 1) := by decide +kernel
theorem dX3_compute_0 : decode cX3_compute 0 = .ok (.aload_n 0, 1) := by decide +kernel
theorem dX3_compute_1 : decode cX3_compute 1 = .ok (.aload_n 1, 1) := by decide +kernel
theorem dX3_compute_2 : decode cX3_compute 2 = .ok (.bipush 54, 2) := by decide +kernel
theorem dX3_compute_4 : decode cX3_compute 4 = .ok (.aload_n 2, 1) := by decide +kernel
theorem dX3_compute_5 : decode cX3_compute 5 = .ok (.iload_n 3, 1) := by decide +kernel
theorem dX3_compute_6 : decode cX3_compute 6 = .ok (.invokevirtual 22, 3) := by decide +kernel
theorem dX3_compute_9 : decode cX3_compute 9 = .ok (.aload_n 0, 1) := by decide +kernel
theorem dX3_compute_10 : decode cX3_compute 10 = .ok (.invokevirtual 26, 3) := by decide +kernel
theorem dX3_compute_13 : decode cX3_compute 13 = .ok (.aload_n 0, 1) := by decide +kernel
theorem dX3_compute_14 : decode cX3_compute 14 = .ok (.aload_n 1, 1) := by decide +kernel
theorem dX3_compute_15 : decode cX3_compute 15 = .ok (.bipush 92, 2) := by decide +kernel
theorem dX3_compute_17 : decode cX3_compute 17 = .ok (.aload_n 0, 1) := by decide +kernel
theorem dX3_compute_18 : decode cX3_compute 18 = .ok (.getfield 9, 3) := by decide +kernel
theorem dX3_compute_21 : decode cX3_compute 21 = .ok (.bipush 32, 2) := by decide +kernel
theorem dX3_compute_23 : decode cX3_compute 23 = .ok (.invokevirtual 22, 3) := by decide +kernel
theorem dX3_compute_26 : decode cX3_compute 26 = .ok (.aload_n 0, 1) := by decide +kernel
theorem dX3_compute_27 : decode cX3_compute 27 = .ok (.invokevirtual 26, 3) := by decide +kernel
theorem dX3_compute_30 : decode cX3_compute 30 = .ok (.return_, 1) := by decide +kernel
theorem dX3_fillBlocks_0 : decode cX3_fillBlocks 0 = .ok (.iconst 0, 1) := by decide +kernel
theorem dX3_fillBlocks_1 : decode cX3_fillBlocks 1 = .ok (.istore 5, 2) := by decide +kernel
theorem dX3_fillBlocks_3 : decode cX3_fillBlocks 3 = .ok (.iload 5, 2) := by decide +kernel
theorem dX3_fillBlocks_5 : decode cX3_fillBlocks 5 = .ok (.bipush 64, 2) := by decide +kernel
theorem dX3_fillBlocks_7 : decode cX3_fillBlocks 7 = .ok (.if_icmp .ge 33, 3) := by decide +kernel
theorem dX3_fillBlocks_10 : decode cX3_fillBlocks 10 = .ok (.aload_n 0, 1) := by decide +kernel
theorem dX3_fillBlocks_11 : decode cX3_fillBlocks 11 = .ok (.getfield 13, 3) := by decide +kernel
theorem dX3_fillBlocks_14 : decode cX3_fillBlocks 14 = .ok (.iload 5, 2) := by decide +kernel
theorem dX3_fillBlocks_16 : decode cX3_fillBlocks 16 = .ok (.iload 5, 2) := by decide +kernel
theorem dX3_fillBlocks_18 : decode cX3_fillBlocks 18 = .ok (.aload_n 1, 1) := by decide +kernel
theorem dX3_fillBlocks_19 : decode cX3_fillBlocks 19 = .ok (.arraylength, 1) := by decide +kernel
theorem dX3_fillBlocks_20 : decode cX3_fillBlocks 20 = .ok (.if_icmp .ge 10, 3) := by decide +kernel
theorem dX3_fillBlocks_23 : decode cX3_fillBlocks 23 = .ok (.aload_n 1, 1) := by decide +kernel
theorem dX3_fillBlocks_24 : decode cX3_fillBlocks 24 = .ok (.iload 5, 2) := by decide +kernel
theorem dX3_fillBlocks_26 : decode cX3_fillBlocks 26 = .ok (.iaload, 1) := by decide +kernel
theorem dX3_fillBlocks_27 : decode cX3_fillBlocks 27 = .ok (.goto 4, 3) := by decide +kernel
theorem dX3_fillBlocks_30 : decode cX3_fillBlocks 30 = .ok (.iconst 0, 1) := by decide +kernel
theorem dX3_fillBlocks_31 : decode cX3_fillBlocks 31 = .ok (.iload_n 2, 1) := by decide +kernel
theorem dX3_fillBlocks_32 : decode cX3_fillBlocks 32 = .ok (.ixor, 1) := by decide +kernel
theorem dX3_fillBlocks_33 : decode cX3_fillBlocks 33 = .ok (.iastore, 1) := by decide +kernel
theorem dX3_fillBlocks_34 : decode cX3_fillBlocks 34 = .ok (.iinc 5 1, 3) := by decide +kernel
theorem dX3_fillBlocks_37 : decode cX3_fillBlocks 37 = .ok (.goto (-34), 3) := by decide +kernel
theorem dX3_fillBlocks_40 : decode cX3_fillBlocks 40 = .ok (.iconst 0, 1) := by decide +kernel
theorem dX3_fillBlocks_41 : decode cX3_fillBlocks 41 = .ok (.istore 5, 2) := by decide +kernel
theorem dX3_fillBlocks_43 : decode cX3_fillBlocks 43 = .ok (.iload 5, 2) := by decide +kernel
theorem dX3_fillBlocks_45 : decode cX3_fillBlocks 45 = .ok (.bipush 64, 2) := by decide +kernel
theorem dX3_fillBlocks_47 : decode cX3_fillBlocks 47 = .ok (.if_icmp .ge 34, 3) := by decide +kernel
theorem dX3_fillBlocks_50 : decode cX3_fillBlocks 50 = .ok (.aload_n 0, 1) := by decide +kernel
theorem dX3_fillBlocks_51 : decode cX3_fillBlocks 51 = .ok (.getfield 13, 3) := by decide +kernel
theorem dX3_fillBlocks_54 : decode cX3_fillBlocks 54 = .ok (.bipush 64, 2) := by decide +kernel
theorem dX3_fillBlocks_56 : decode cX3_fillBlocks 56 = .ok (.iload 5, 2) := by decide +kernel
theorem dX3_fillBlocks_58 : decode cX3_fillBlocks 58 = .ok (.iadd, 1) := by decide +kernel
theorem dX3_fillBlocks_59 : decode cX3_fillBlocks 59 = .ok (.iload 5, 2) := by decide +kernel
theorem dX3_fillBlocks_61 : decode cX3_fillBlocks 61 = .ok (.iload 4, 2) := by decide +kernel
theorem dX3_fillBlocks_63 : decode cX3_fillBlocks 63 = .ok (.if_icmp .ge 10, 3) := by decide +kernel
theorem dX3_fillBlocks_66 : decode cX3_fillBlocks 66 = .ok (.aload_n 3, 1) := by decide +kernel
theorem dX3_fillBlocks_67 : decode cX3_fillBlocks 67 = .ok (.iload 5, 2) := by decide +kernel
theorem dX3_fillBlocks_69 : decode cX3_fillBlocks 69 = .ok (.iaload, 1) := by decide +kernel
theorem dX3_fillBlocks_70 : decode cX3_fillBlocks 70 = .ok (.goto 4, 3) := by decide +kernel
theorem dX3_fillBlocks_73 : decode cX3_fillBlocks 73 = .ok (.iconst 0, 1) := by decide +kernel
theorem dX3_fillBlocks_74 : decode cX3_fillBlocks 74 = .ok (.iastore, 1) := by decide +kernel
theorem dX3_fillBlocks_75 : decode cX3_fillBlocks 75 = .ok (.iinc 5 1, 3) := by decide +kernel
theorem dX3_fillBlocks_78 : decode cX3_fillBlocks 78 = .ok (.goto (-35), 3) := by decide +kernel
theorem dX3_fillBlocks_81 : decode cX3_fillBlocks 81 = .ok (.aload_n 0, 1) := by decide +kernel
theorem dX3_fillBlocks_82 : decode cX3_fillBlocks 82 = .ok (.getfield 13, 3) := by decide +kernel
theorem dX3_fillBlocks_85 : decode cX3_fillBlocks 85 = .ok (.bipush 64, 2) := by decide +kernel
theorem dX3_fillBlocks_87 : decode cX3_fillBlocks 87 = .ok (.iload 4, 2) := by decide +kernel
theorem dX3_fillBlocks_89 : decode cX3_fillBlocks 89 = .ok (.iadd, 1) := by decide +kernel
theorem dX3_fillBlocks_90 : decode cX3_fillBlocks 90 = .ok (.sipush 128, 3) := by decide +kernel
theorem dX3_fillBlocks_93 : decode cX3_fillBlocks 93 = .ok (.iastore, 1) := by decide +kernel
theorem dX3_fillBlocks_94 : decode cX3_fillBlocks 94 = .ok (.bipush 8, 2) := by decide +kernel
theorem dX3_fillBlocks_96 : decode cX3_fillBlocks 96 = .ok (.bipush 64, 2) := by decide +kernel
theorem dX3_fillBlocks_98 : decode cX3_fillBlocks 98 = .ok (.iload 4, 2) := by decide +kernel
theorem dX3_fillBlocks_100 : decode cX3_fillBlocks 100 = .ok (.iadd, 1) := by decide +kernel
theorem dX3_fillBlocks_101 : decode cX3_fillBlocks 101 = .ok (.imul, 1) := by decide +kernel
theorem dX3_fillBlocks_102 : decode cX3_fillBlocks 102 = .ok (.istore 5, 2) := by decide +kernel
theorem dX3_fillBlocks_104 : decode cX3_fillBlocks 104 = .ok (.aload_n 0, 1) := by decide +kernel
theorem dX3_fillBlocks_105 : decode cX3_fillBlocks 105 = .ok (.getfield 13, 3) := by decide +kernel
theorem dX3_fillBlocks_108 : decode cX3_fillBlocks 108 = .ok (.bipush 126, 2) := by decide +kernel
theorem dX3_fillBlocks_110 : decode cX3_fillBlocks 110 = .ok (.iload 5, 2) := by decide +kernel
theorem dX3_fillBlocks_112 : decode cX3_fillBlocks 112 = .ok (.bipush 8, 2) := by decide +kernel
theorem dX3_fillBlocks_114 : decode cX3_fillBlocks 114 = .ok (.iushr, 1) := by decide +kernel
theorem dX3_fillBlocks_115 : decode cX3_fillBlocks 115 = .ok (.iastore, 1) := by decide +kernel
theorem dX3_fillBlocks_116 : decode cX3_fillBlocks 116 = .ok (.aload_n 0, 1) := by decide +kernel
theorem dX3_fillBlocks_117 : decode cX3_fillBlocks 117 = .ok (.getfield 13, 3) := by decide +kernel
theorem dX3_fillBlocks_120 : decode cX3_fillBlocks 120 = .ok (.bipush 127, 2) := by decide +kernel
theorem dX3_fillBlocks_122 : decode cX3_fillBlocks 122 = .ok (.iload 5, 2) := by decide +kernel
theorem dX3_fillBlocks_124 : decode cX3_fillBlocks 124 = .ok (.sipush 255, 3) := by decide +kernel
theorem dX3_fillBlocks_127 : decode cX3_fillBlocks 127 = .ok (.iand, 1) := by decide +kernel
theorem dX3_fillBlocks_128 : decode cX3_fillBlocks 128 = .ok (.iastore, 1) := by decide +kernel
theorem dX3_fillBlocks_129 : decode cX3_fillBlocks 129 = .ok (.return_, 1) := by decide +kernel
theorem dX3_hashBlocks_0 : decode cX3_hashBlocks 0 = .ok (.getstatic 29, 3) := by decide +kernel
theorem dX3_hashBlocks_3 : decode cX3_hashBlocks 3 = .ok (.iconst 0, 1) := by decide +kernel
theorem dX3_hashBlocks_4 : decode cX3_hashBlocks 4 = .ok (.aload_n 0, 1) := by decide +kernel
theorem dX3_hashBlocks_5 : decode cX3_hashBlocks 5 = .ok (.getfield 19, 3) := by decide +kernel
theorem dX3_hashBlocks_8 : decode cX3_hashBlocks 8 = .ok (.iconst 0, 1) := by decide +kernel
theorem dX3_hashBlocks_9 : decode cX3_hashBlocks 9 = .ok (.aload_n 0, 1) := by decide +kernel
theorem dX3_hashBlocks_10 : decode cX3_hashBlocks 10 = .ok (.getfield 19, 3) := by decide +kernel
theorem dX3_hashBlocks_13 : decode cX3_hashBlocks 13 = .ok (.arraylength, 1) := by decide +kernel
theorem dX3_hashBlocks_14 : decode cX3_hashBlocks 14 = .ok (.invokestatic 32, 3) := by decide +kernel
theorem dX3_hashBlocks_17 : decode cX3_hashBlocks 17 = .ok (.aload_n 0, 1) := by decide +kernel
theorem dX3_hashBlocks_18 : decode cX3_hashBlocks 18 = .ok (.iconst 0, 1) := by decide +kernel
theorem dX3_hashBlocks_19 : decode cX3_hashBlocks 19 = .ok (.invokevirtual 38, 3) := by decide +kernel
theorem dX3_hashBlocks_22 : decode cX3_hashBlocks 22 = .ok (.aload_n 0, 1) := by decide +kernel
theorem dX3_hashBlocks_23 : decode cX3_hashBlocks 23 = .ok (.invokevirtual 42, 3) := by decide +kernel
theorem dX3_hashBlocks_26 : decode cX3_hashBlocks 26 = .ok (.aload_n 0, 1) := by decide +kernel
theorem dX3_hashBlocks_27 : decode cX3_hashBlocks 27 = .ok (.bipush 64, 2) := by decide +kernel
theorem dX3_hashBlocks_29 : decode cX3_hashBlocks 29 = .ok (.invokevirtual 38, 3) := by decide +kernel
theorem dX3_hashBlocks_32 : decode cX3_hashBlocks 32 = .ok (.aload_n 0, 1) := by decide +kernel
theorem dX3_hashBlocks_33 : decode cX3_hashBlocks 33 = .ok (.invokevirtual 42, 3) := by decide +kernel
theorem dX3_hashBlocks_36 : decode cX3_hashBlocks 36 = .ok (.iconst 0, 1) := by decide +kernel
theorem dX3_hashBlocks_37 : decode cX3_hashBlocks 37 = .ok (.istore_n 1, 1) := by decide +kernel
theorem dX3_hashBlocks_38 : decode cX3_hashBlocks 38 = .ok (.iload_n 1, 1) := by decide +kernel
theorem dX3_hashBlocks_39 : decode cX3_hashBlocks 39 = .ok (.bipush 32, 2) := by decide +kernel
theorem dX3_hashBlocks_41 : decode cX3_hashBlocks 41 = .ok (.if_icmp .ge 29, 3) := by decide +kernel
theorem dX3_hashBlocks_44 : decode cX3_hashBlocks 44 = .ok (.aload_n 0, 1) := by decide +kernel
theorem dX3_hashBlocks_45 : decode cX3_hashBlocks 45 = .ok (.getfield 9, 3) := by decide +kernel
theorem dX3_hashBlocks_48 : decode cX3_hashBlocks 48 = .ok (.iload_n 1, 1) := by decide +kernel
theorem dX3_hashBlocks_49 : decode cX3_hashBlocks 49 = .ok (.aload_n 0, 1) := by decide +kernel
theorem dX3_hashBlocks_50 : decode cX3_hashBlocks 50 = .ok (.getfield 19, 3) := by decide +kernel
theorem dX3_hashBlocks_53 : decode cX3_hashBlocks 53 = .ok (.iload_n 1, 1) := by decide +kernel
theorem dX3_hashBlocks_54 : decode cX3_hashBlocks 54 = .ok (.iconst 4, 1) := by decide +kernel
theorem dX3_hashBlocks_55 : decode cX3_hashBlocks 55 = .ok (.idiv, 1) := by decide +kernel
theorem dX3_hashBlocks_56 : decode cX3_hashBlocks 56 = .ok (.iaload, 1) := by decide +kernel
theorem dX3_hashBlocks_57 : decode cX3_hashBlocks 57 = .ok (.iload_n 1, 1) := by decide +kernel
theorem dX3_hashBlocks_58 : decode cX3_hashBlocks 58 = .ok (.iconst 4, 1) := by decide +kernel
theorem dX3_hashBlocks_59 : decode cX3_hashBlocks 59 = .ok (.irem, 1) := by decide +kernel
theorem dX3_hashBlocks_60 : decode cX3_hashBlocks 60 = .ok (.invokestatic 45, 3) := by decide +kernel
theorem dX3_hashBlocks_63 : decode cX3_hashBlocks 63 = .ok (.iastore, 1) := by decide +kernel
theorem dX3_hashBlocks_64 : decode cX3_hashBlocks 64 = .ok (.iinc 1 1, 3) := by decide +kernel
theorem dX3_hashBlocks_67 : decode cX3_hashBlocks 67 = .ok (.goto (-29), 3) := by decide +kernel
theorem dX3_hashBlocks_70 : decode cX3_hashBlocks 70 = .ok (.return_, 1) := by decide +kernel
theorem dX3_fillSchedule_0 : decode cX3_fillSchedule 0 = .ok (.iconst 0, 1) := by decide +kernel
theorem dX3_fillSchedule_1 : decode cX3_fillSchedule 1 = .ok (.istore_n 2, 1) := by decide +kernel
theorem dX3_fillSchedule_2 : decode cX3_fillSchedule 2 = .ok (.iload_n 2, 1) := by decide +kernel
theorem dX3_fillSchedule_3 : decode cX3_fillSchedule 3 = .ok (.bipush 16, 2) := by decide +kernel
theorem dX3_fillSchedule_5 : decode cX3_fillSchedule 5 = .ok (.if_icmp .ge 63, 3) := by decide +kernel
theorem dX3_fillSchedule_8 : decode cX3_fillSchedule 8 = .ok (.iload_n 1, 1) := by decide +kernel
theorem dX3_fillSchedule_9 : decode cX3_fillSchedule 9 = .ok (.iconst 4, 1) := by decide +kernel
theorem dX3_fillSchedule_10 : decode cX3_fillSchedule 10 = .ok (.iload_n 2, 1) := by decide +kernel
theorem dX3_fillSchedule_11 : decode cX3_fillSchedule 11 = .ok (.imul, 1) := by decide +kernel
theorem dX3_fillSchedule_12 : decode cX3_fillSchedule 12 = .ok (.iadd, 1) := by decide +kernel
theorem dX3_fillSchedule_13 : decode cX3_fillSchedule 13 = .ok (.istore_n 3, 1) := by decide +kernel
theorem dX3_fillSchedule_14 : decode cX3_fillSchedule 14 = .ok (.aload_n 0, 1) := by decide +kernel
theorem dX3_fillSchedule_15 : decode cX3_fillSchedule 15 = .ok (.getfield 16, 3) := by decide +kernel
theorem dX3_fillSchedule_18 : decode cX3_fillSchedule 18 = .ok (.iload_n 2, 1) := by decide +kernel
theorem dX3_fillSchedule_19 : decode cX3_fillSchedule 19 = .ok (.aload_n 0, 1) := by decide +kernel
theorem dX3_fillSchedule_20 : decode cX3_fillSchedule 20 = .ok (.getfield 13, 3) := by decide +kernel
theorem dX3_fillSchedule_23 : decode cX3_fillSchedule 23 = .ok (.iload_n 3, 1) := by decide +kernel
theorem dX3_fillSchedule_24 : decode cX3_fillSchedule 24 = .ok (.iaload, 1) := by decide +kernel
theorem dX3_fillSchedule_25 : decode cX3_fillSchedule 25 = .ok (.bipush 24, 2) := by decide +kernel
theorem dX3_fillSchedule_27 : decode cX3_fillSchedule 27 = .ok (.ishl, 1) := by decide +kernel
theorem dX3_fillSchedule_28 : decode cX3_fillSchedule 28 = .ok (.aload_n 0, 1) := by decide +kernel
theorem dX3_fillSchedule_29 : decode cX3_fillSchedule 29 = .ok (.getfield 13, 3) := by decide +kernel
theorem dX3_fillSchedule_32 : decode cX3_fillSchedule 32 = .ok (.iload_n 3, 1) := by decide +kernel
theorem dX3_fillSchedule_33 : decode cX3_fillSchedule 33 = .ok (.iconst 1, 1) := by decide +kernel
theorem dX3_fillSchedule_34 : decode cX3_fillSchedule 34 = .ok (.iadd, 1) := by decide +kernel
theorem dX3_fillSchedule_35 : decode cX3_fillSchedule 35 = .ok (.iaload, 1) := by decide +kernel
theorem dX3_fillSchedule_36 : decode cX3_fillSchedule 36 = .ok (.bipush 16, 2) := by decide +kernel
theorem dX3_fillSchedule_38 : decode cX3_fillSchedule 38 = .ok (.ishl, 1) := by decide +kernel
theorem dX3_fillSchedule_39 : decode cX3_fillSchedule 39 = .ok (.ior, 1) := by decide +kernel
theorem dX3_fillSchedule_40 : decode cX3_fillSchedule 40 = .ok (.aload_n 0, 1) := by decide +kernel
theorem dX3_fillSchedule_41 : decode cX3_fillSchedule 41 = .ok (.getfield 13, 3) := by decide +kernel
theorem dX3_fillSchedule_44 : decode cX3_fillSchedule 44 = .ok (.iload_n 3, 1) := by decide +kernel
theorem dX3_fillSchedule_45 : decode cX3_fillSchedule 45 = .ok (.iconst 2, 1) := by decide +kernel
theorem dX3_fillSchedule_46 : decode cX3_fillSchedule 46 = .ok (.iadd, 1) := by decide +kernel
theorem dX3_fillSchedule_47 : decode cX3_fillSchedule 47 = .ok (.iaload, 1) := by decide +kernel
theorem dX3_fillSchedule_48 : decode cX3_fillSchedule 48 = .ok (.bipush 8, 2) := by decide +kernel
theorem dX3_fillSchedule_50 : decode cX3_fillSchedule 50 = .ok (.ishl, 1) := by decide +kernel
theorem dX3_fillSchedule_51 : decode cX3_fillSchedule 51 = .ok (.ior, 1) := by decide +kernel
theorem dX3_fillSchedule_52 : decode cX3_fillSchedule 52 = .ok (.aload_n 0, 1) := by decide +kernel
theorem dX3_fillSchedule_53 : decode cX3_fillSchedule 53 = .ok (.getfield 13, 3) := by decide +kernel
theorem dX3_fillSchedule_56 : decode cX3_fillSchedule 56 = .ok (.iload_n 3, 1) := by decide +kernel
theorem dX3_fillSchedule_57 : decode cX3_fillSchedule 57 = .ok (.iconst 3, 1) := by decide +kernel
theorem dX3_fillSchedule_58 : decode cX3_fillSchedule 58 = .ok (.iadd, 1) := by decide +kernel
theorem dX3_fillSchedule_59 : decode cX3_fillSchedule 59 = .ok (.iaload, 1) := by decide +kernel
theorem dX3_fillSchedule_60 : decode cX3_fillSchedule 60 = .ok (.ior, 1) := by decide +kernel
theorem dX3_fillSchedule_61 : decode cX3_fillSchedule 61 = .ok (.iastore, 1) := by decide +kernel
theorem dX3_fillSchedule_62 : decode cX3_fillSchedule 62 = .ok (.iinc 2 1, 3) := by decide +kernel
theorem dX3_fillSchedule_65 : decode cX3_fillSchedule 65 = .ok (.goto (-63), 3) := by decide +kernel
theorem dX3_fillSchedule_68 : decode cX3_fillSchedule 68 = .ok (.bipush 16, 2) := by decide +kernel
theorem dX3_fillSchedule_70 : decode cX3_fillSchedule 70 = .ok (.istore_n 2, 1) := by decide +kernel
theorem dX3_fillSchedule_71 : decode cX3_fillSchedule 71 = .ok (.iload_n 2, 1) := by decide +kernel
theorem dX3_fillSchedule_72 : decode cX3_fillSchedule 72 = .ok (.bipush 64, 2) := by decide +kernel
theorem dX3_fillSchedule_74 : decode cX3_fillSchedule 74 = .ok (.if_icmp .ge 102, 3) := by decide +kernel
theorem dX3_fillSchedule_77 : decode cX3_fillSchedule 77 = .ok (.aload_n 0, 1) := by decide +kernel
theorem dX3_fillSchedule_78 : decode cX3_fillSchedule 78 = .ok (.getfield 16, 3) := by decide +kernel
theorem dX3_fillSchedule_81 : decode cX3_fillSchedule 81 = .ok (.iload_n 2, 1) := by decide +kernel
theorem dX3_fillSchedule_82 : decode cX3_fillSchedule 82 = .ok (.iconst 2, 1) := by decide +kernel
theorem dX3_fillSchedule_83 : decode cX3_fillSchedule 83 = .ok (.isub, 1) := by decide +kernel
theorem dX3_fillSchedule_84 : decode cX3_fillSchedule 84 = .ok (.iaload, 1) := by decide +kernel
theorem dX3_fillSchedule_85 : decode cX3_fillSchedule 85 = .ok (.istore_n 3, 1) := by decide +kernel
theorem dX3_fillSchedule_86 : decode cX3_fillSchedule 86 = .ok (.aload_n 0, 1) := by decide +kernel
theorem dX3_fillSchedule_87 : decode cX3_fillSchedule 87 = .ok (.getfield 16, 3) := by decide +kernel
theorem dX3_fillSchedule_90 : decode cX3_fillSchedule 90 = .ok (.iload_n 2, 1) := by decide +kernel
theorem dX3_fillSchedule_91 : decode cX3_fillSchedule 91 = .ok (.bipush 15, 2) := by decide +kernel
theorem dX3_fillSchedule_93 : decode cX3_fillSchedule 93 = .ok (.isub, 1) := by decide +kernel
theorem dX3_fillSchedule_94 : decode cX3_fillSchedule 94 = .ok (.iaload, 1) := by decide +kernel
theorem dX3_fillSchedule_95 : decode cX3_fillSchedule 95 = .ok (.istore 4, 2) := by decide +kernel
theorem dX3_fillSchedule_97 : decode cX3_fillSchedule 97 = .ok (.iload_n 3, 1) := by decide +kernel
theorem dX3_fillSchedule_98 : decode cX3_fillSchedule 98 = .ok (.bipush 17, 2) := by decide +kernel
theorem dX3_fillSchedule_100 : decode cX3_fillSchedule 100 = .ok (.invokestatic 51, 3) := by decide +kernel
theorem dX3_fillSchedule_103 : decode cX3_fillSchedule 103 = .ok (.iload_n 3, 1) := by decide +kernel
theorem dX3_fillSchedule_104 : decode cX3_fillSchedule 104 = .ok (.bipush 19, 2) := by decide +kernel
theorem dX3_fillSchedule_106 : decode cX3_fillSchedule 106 = .ok (.invokestatic 51, 3) := by decide +kernel
theorem dX3_fillSchedule_109 : decode cX3_fillSchedule 109 = .ok (.ixor, 1) := by decide +kernel
theorem dX3_fillSchedule_110 : decode cX3_fillSchedule 110 = .ok (.iload_n 3, 1) := by decide +kernel
theorem dX3_fillSchedule_111 : decode cX3_fillSchedule 111 = .ok (.bipush 10, 2) := by decide +kernel
theorem dX3_fillSchedule_113 : decode cX3_fillSchedule 113 = .ok (.iushr, 1) := by decide +kernel
theorem dX3_fillSchedule_114 : decode cX3_fillSchedule 114 = .ok (.ixor, 1) := by decide +kernel
theorem dX3_fillSchedule_115 : decode cX3_fillSchedule 115 = .ok (.istore 5, 2) := by decide +kernel
theorem dX3_fillSchedule_117 : decode cX3_fillSchedule 117 = .ok (.iload 4, 2) := by decide +kernel
theorem dX3_fillSchedule_119 : decode cX3_fillSchedule 119 = .ok (.bipush 7, 2) := by decide +kernel
theorem dX3_fillSchedule_121 : decode cX3_fillSchedule 121 = .ok (.invokestatic 51, 3) := by decide +kernel
theorem dX3_fillSchedule_124 : decode cX3_fillSchedule 124 = .ok (.iload 4, 2) := by decide +kernel
theorem dX3_fillSchedule_126 : decode cX3_fillSchedule 126 = .ok (.bipush 18, 2) := by decide +kernel
theorem dX3_fillSchedule_128 : decode cX3_fillSchedule 128 = .ok (.invokestatic 51, 3) := by decide +kernel
theorem dX3_fillSchedule_131 : decode cX3_fillSchedule 131 = .ok (.ixor, 1) := by decide +kernel
theorem dX3_fillSchedule_132 : decode cX3_fillSchedule 132 = .ok (.iload 4, 2) := by decide +kernel
theorem dX3_fillSchedule_134 : decode cX3_fillSchedule 134 = .ok (.iconst 3, 1) := by decide +kernel
theorem dX3_fillSchedule_135 : decode cX3_fillSchedule 135 = .ok (.iushr, 1) := by decide +kernel
theorem dX3_fillSchedule_136 : decode cX3_fillSchedule 136 = .ok (.ixor, 1) := by decide +kernel
theorem dX3_fillSchedule_137 : decode cX3_fillSchedule 137 = .ok (.istore 6, 2) := by decide +kernel
theorem dX3_fillSchedule_139 : decode cX3_fillSchedule 139 = .ok (.aload_n 0, 1) := by decide +kernel
theorem dX3_fillSchedule_140 : decode cX3_fillSchedule 140 = .ok (.getfield 16, 3) := by decide +kernel
theorem dX3_fillSchedule_143 : decode cX3_fillSchedule 143 = .ok (.iload_n 2, 1) := by decide +kernel
theorem dX3_fillSchedule_144 : decode cX3_fillSchedule 144 = .ok (.iload 5, 2) := by decide +kernel
theorem dX3_fillSchedule_146 : decode cX3_fillSchedule 146 = .ok (.aload_n 0, 1) := by decide +kernel
theorem dX3_fillSchedule_147 : decode cX3_fillSchedule 147 = .ok (.getfield 16, 3) := by decide +kernel
theorem dX3_fillSchedule_150 : decode cX3_fillSchedule 150 = .ok (.iload_n 2, 1) := by decide +kernel
theorem dX3_fillSchedule_151 : decode cX3_fillSchedule 151 = .ok (.bipush 7, 2) := by decide +kernel
theorem dX3_fillSchedule_153 : decode cX3_fillSchedule 153 = .ok (.isub, 1) := by decide +kernel
theorem dX3_fillSchedule_154 : decode cX3_fillSchedule 154 = .ok (.iaload, 1) := by decide +kernel
theorem dX3_fillSchedule_155 : decode cX3_fillSchedule 155 = .ok (.iadd, 1) := by decide +kernel
theorem dX3_fillSchedule_156 : decode cX3_fillSchedule 156 = .ok (.iload 6, 2) := by decide +kernel
theorem dX3_fillSchedule_158 : decode cX3_fillSchedule 158 = .ok (.iadd, 1) := by decide +kernel
theorem dX3_fillSchedule_159 : decode cX3_fillSchedule 159 = .ok (.aload_n 0, 1) := by decide +kernel
theorem dX3_fillSchedule_160 : decode cX3_fillSchedule 160 = .ok (.getfield 16, 3) := by decide +kernel
theorem dX3_fillSchedule_163 : decode cX3_fillSchedule 163 = .ok (.iload_n 2, 1) := by decide +kernel
theorem dX3_fillSchedule_164 : decode cX3_fillSchedule 164 = .ok (.bipush 16, 2) := by decide +kernel
theorem dX3_fillSchedule_166 : decode cX3_fillSchedule 166 = .ok (.isub, 1) := by decide +kernel
theorem dX3_fillSchedule_167 : decode cX3_fillSchedule 167 = .ok (.iaload, 1) := by decide +kernel
theorem dX3_fillSchedule_168 : decode cX3_fillSchedule 168 = .ok (.iadd, 1) := by decide +kernel
theorem dX3_fillSchedule_169 : decode cX3_fillSchedule 169 = .ok (.iastore, 1) := by decide +kernel
theorem dX3_fillSchedule_170 : decode cX3_fillSchedule 170 = .ok (.iinc 2 1, 3) := by decide +kernel
theorem dX3_fillSchedule_173 : decode cX3_fillSchedule 173 = .ok (.goto (-102), 3) := by decide +kernel
theorem dX3_fillSchedule_176 : decode cX3_fillSchedule 176 = .ok (.return_, 1) := by decide +kernel
theorem dX3_mixSchedule_0 : decode cX3_mixSchedule 0 = .ok (.aload_n 0, 1) := by decide +kernel
theorem dX3_mixSchedule_1 : decode cX3_mixSchedule 1 = .ok (.getfield 19, 3) := by decide +kernel
theorem dX3_mixSchedule_4 : decode cX3_mixSchedule 4 = .ok (.iconst 0, 1) := by decide +kernel
theorem dX3_mixSchedule_5 : decode cX3_mixSchedule 5 = .ok (.iaload, 1) := by decide +kernel
theorem dX3_mixSchedule_6 : decode cX3_mixSchedule 6 = .ok (.istore_n 1, 1) := by decide +kernel
theorem dX3_mixSchedule_7 : decode cX3_mixSchedule 7 = .ok (.aload_n 0, 1) := by decide +kernel
theorem dX3_mixSchedule_8 : decode cX3_mixSchedule 8 = .ok (.getfield 19, 3) := by decide +kernel
theorem dX3_mixSchedule_11 : decode cX3_mixSchedule 11 = .ok (.iconst 1, 1) := by decide +kernel
theorem dX3_mixSchedule_12 : decode cX3_mixSchedule 12 = .ok (.iaload, 1) := by decide +kernel
theorem dX3_mixSchedule_13 : decode cX3_mixSchedule 13 = .ok (.istore_n 2, 1) := by decide +kernel
theorem dX3_mixSchedule_14 : decode cX3_mixSchedule 14 = .ok (.aload_n 0, 1) := by decide +kernel
theorem dX3_mixSchedule_15 : decode cX3_mixSchedule 15 = .ok (.getfield 19, 3) := by decide +kernel
theorem dX3_mixSchedule_18 : decode cX3_mixSchedule 18 = .ok (.iconst 2, 1) := by decide +kernel
theorem dX3_mixSchedule_19 : decode cX3_mixSchedule 19 = .ok (.iaload, 1) := by decide +kernel
theorem dX3_mixSchedule_20 : decode cX3_mixSchedule 20 = .ok (.istore_n 3, 1) := by decide +kernel
theorem dX3_mixSchedule_21 : decode cX3_mixSchedule 21 = .ok (.aload_n 0, 1) := by decide +kernel
theorem dX3_mixSchedule_22 : decode cX3_mixSchedule 22 = .ok (.getfield 19, 3) := by decide +kernel
theorem dX3_mixSchedule_25 : decode cX3_mixSchedule 25 = .ok (.iconst 3, 1) := by decide +kernel
theorem dX3_mixSchedule_26 : decode cX3_mixSchedule 26 = .ok (.iaload, 1) := by decide +kernel
theorem dX3_mixSchedule_27 : decode cX3_mixSchedule 27 = .ok (.istore 4, 2) := by decide +kernel
theorem dX3_mixSchedule_29 : decode cX3_mixSchedule 29 = .ok (.aload_n 0, 1) := by decide +kernel
theorem dX3_mixSchedule_30 : decode cX3_mixSchedule 30 = .ok (.getfield 19, 3) := by decide +kernel
theorem dX3_mixSchedule_33 : decode cX3_mixSchedule 33 = .ok (.iconst 4, 1) := by decide +kernel
theorem dX3_mixSchedule_34 : decode cX3_mixSchedule 34 = .ok (.iaload, 1) := by decide +kernel
theorem dX3_mixSchedule_35 : decode cX3_mixSchedule 35 = .ok (.istore 5, 2) := by decide +kernel
theorem dX3_mixSchedule_37 : decode cX3_mixSchedule 37 = .ok (.aload_n 0, 1) := by decide +kernel
theorem dX3_mixSchedule_38 : decode cX3_mixSchedule 38 = .ok (.getfield 19, 3) := by decide +kernel
theorem dX3_mixSchedule_41 : decode cX3_mixSchedule 41 = .ok (.iconst 5, 1) := by decide +kernel
theorem dX3_mixSchedule_42 : decode cX3_mixSchedule 42 = .ok (.iaload, 1) := by decide +kernel
theorem dX3_mixSchedule_43 : decode cX3_mixSchedule 43 = .ok (.istore 6, 2) := by decide +kernel
theorem dX3_mixSchedule_45 : decode cX3_mixSchedule 45 = .ok (.aload_n 0, 1) := by decide +kernel
theorem dX3_mixSchedule_46 : decode cX3_mixSchedule 46 = .ok (.getfield 19, 3) := by decide +kernel
theorem dX3_mixSchedule_49 : decode cX3_mixSchedule 49 = .ok (.bipush 6, 2) := by decide +kernel
theorem dX3_mixSchedule_51 : decode cX3_mixSchedule 51 = .ok (.iaload, 1) := by decide +kernel
theorem dX3_mixSchedule_52 : decode cX3_mixSchedule 52 = .ok (.istore 7, 2) := by decide +kernel
theorem dX3_mixSchedule_54 : decode cX3_mixSchedule 54 = .ok (.aload_n 0, 1) := by decide +kernel
theorem dX3_mixSchedule_55 : decode cX3_mixSchedule 55 = .ok (.getfield 19, 3) := by decide +kernel
theorem dX3_mixSchedule_58 : decode cX3_mixSchedule 58 = .ok (.bipush 7, 2) := by decide +kernel
theorem dX3_mixSchedule_60 : decode cX3_mixSchedule 60 = .ok (.iaload, 1) := by decide +kernel
theorem dX3_mixSchedule_61 : decode cX3_mixSchedule 61 = .ok (.istore 8, 2) := by decide +kernel
theorem dX3_mixSchedule_63 : decode cX3_mixSchedule 63 = .ok (.iconst 0, 1) := by decide +kernel
theorem dX3_mixSchedule_64 : decode cX3_mixSchedule 64 = .ok (.istore 9, 2) := by decide +kernel
theorem dX3_mixSchedule_66 : decode cX3_mixSchedule 66 = .ok (.iload 9, 2) := by decide +kernel
theorem dX3_mixSchedule_68 : decode cX3_mixSchedule 68 = .ok (.bipush 64, 2) := by decide +kernel
theorem dX3_mixSchedule_70 : decode cX3_mixSchedule 70 = .ok (.if_icmp .ge 139, 3) := by decide +kernel
theorem dX3_mixSchedule_73 : decode cX3_mixSchedule 73 = .ok (.iload 5, 2) := by decide +kernel
theorem dX3_mixSchedule_75 : decode cX3_mixSchedule 75 = .ok (.iload 6, 2) := by decide +kernel
theorem dX3_mixSchedule_77 : decode cX3_mixSchedule 77 = .ok (.iand, 1) := by decide +kernel
theorem dX3_mixSchedule_78 : decode cX3_mixSchedule 78 = .ok (.iload 5, 2) := by decide +kernel
theorem dX3_mixSchedule_80 : decode cX3_mixSchedule 80 = .ok (.iconst (-1), 1) := by decide +kernel
theorem dX3_mixSchedule_81 : decode cX3_mixSchedule 81 = .ok (.ixor, 1) := by decide +kernel
theorem dX3_mixSchedule_82 : decode cX3_mixSchedule 82 = .ok (.iload 7, 2) := by decide +kernel
theorem dX3_mixSchedule_84 : decode cX3_mixSchedule 84 = .ok (.iand, 1) := by decide +kernel
theorem dX3_mixSchedule_85 : decode cX3_mixSchedule 85 = .ok (.ixor, 1) := by decide +kernel
theorem dX3_mixSchedule_86 : decode cX3_mixSchedule 86 = .ok (.istore 10, 2) := by decide +kernel
theorem dX3_mixSchedule_88 : decode cX3_mixSchedule 88 = .ok (.iload_n 1, 1) := by decide +kernel
theorem dX3_mixSchedule_89 : decode cX3_mixSchedule 89 = .ok (.iload_n 2, 1) := by decide +kernel
theorem dX3_mixSchedule_90 : decode cX3_mixSchedule 90 = .ok (.iand, 1) := by decide +kernel
theorem dX3_mixSchedule_91 : decode cX3_mixSchedule 91 = .ok (.iload_n 1, 1) := by decide +kernel
theorem dX3_mixSchedule_92 : decode cX3_mixSchedule 92 = .ok (.iload_n 3, 1) := by decide +kernel
theorem dX3_mixSchedule_93 : decode cX3_mixSchedule 93 = .ok (.iand, 1) := by decide +kernel
theorem dX3_mixSchedule_94 : decode cX3_mixSchedule 94 = .ok (.ixor, 1) := by decide +kernel
theorem dX3_mixSchedule_95 : decode cX3_mixSchedule 95 = .ok (.iload_n 2, 1) := by decide +kernel
theorem dX3_mixSchedule_96 : decode cX3_mixSchedule 96 = .ok (.iload_n 3, 1) := by decide +kernel
theorem dX3_mixSchedule_97 : decode cX3_mixSchedule 97 = .ok (.iand, 1) := by decide +kernel
theorem dX3_mixSchedule_98 : decode cX3_mixSchedule 98 = .ok (.ixor, 1) := by decide +kernel
theorem dX3_mixSchedule_99 : decode cX3_mixSchedule 99 = .ok (.istore 11, 2) := by decide +kernel
theorem dX3_mixSchedule_101 : decode cX3_mixSchedule 101 = .ok (.iload 8, 2) := by decide +kernel
theorem dX3_mixSchedule_103 : decode cX3_mixSchedule 103 = .ok (.iload 5, 2) := by decide +kernel
theorem dX3_mixSchedule_105 : decode cX3_mixSchedule 105 = .ok (.bipush 6, 2) := by decide +kernel
theorem dX3_mixSchedule_107 : decode cX3_mixSchedule 107 = .ok (.invokestatic 51, 3) := by decide +kernel
theorem dX3_mixSchedule_110 : decode cX3_mixSchedule 110 = .ok (.iload 5, 2) := by decide +kernel
theorem dX3_mixSchedule_112 : decode cX3_mixSchedule 112 = .ok (.bipush 11, 2) := by decide +kernel
theorem dX3_mixSchedule_114 : decode cX3_mixSchedule 114 = .ok (.invokestatic 51, 3) := by decide +kernel
theorem dX3_mixSchedule_117 : decode cX3_mixSchedule 117 = .ok (.ixor, 1) := by decide +kernel
theorem dX3_mixSchedule_118 : decode cX3_mixSchedule 118 = .ok (.iload 5, 2) := by decide +kernel
theorem dX3_mixSchedule_120 : decode cX3_mixSchedule 120 = .ok (.bipush 25, 2) := by decide +kernel
theorem dX3_mixSchedule_122 : decode cX3_mixSchedule 122 = .ok (.invokestatic 51, 3) := by decide +kernel
theorem dX3_mixSchedule_125 : decode cX3_mixSchedule 125 = .ok (.ixor, 1) := by decide +kernel
theorem dX3_mixSchedule_126 : decode cX3_mixSchedule 126 = .ok (.iadd, 1) := by decide +kernel
theorem dX3_mixSchedule_127 : decode cX3_mixSchedule 127 = .ok (.iload 10, 2) := by decide +kernel
theorem dX3_mixSchedule_129 : decode cX3_mixSchedule 129 = .ok (.iadd, 1) := by decide +kernel
theorem dX3_mixSchedule_130 : decode cX3_mixSchedule 130 = .ok (.getstatic 54, 3) := by decide +kernel
theorem dX3_mixSchedule_133 : decode cX3_mixSchedule 133 = .ok (.iload 9, 2) := by decide +kernel
theorem dX3_mixSchedule_135 : decode cX3_mixSchedule 135 = .ok (.iaload, 1) := by decide +kernel
theorem dX3_mixSchedule_136 : decode cX3_mixSchedule 136 = .ok (.iadd, 1) := by decide +kernel
theorem dX3_mixSchedule_137 : decode cX3_mixSchedule 137 = .ok (.aload_n 0, 1) := by decide +kernel
theorem dX3_mixSchedule_138 : decode cX3_mixSchedule 138 = .ok (.getfield 16, 3) := by decide +kernel
theorem dX3_mixSchedule_141 : decode cX3_mixSchedule 141 = .ok (.iload 9, 2) := by decide +kernel
theorem dX3_mixSchedule_143 : decode cX3_mixSchedule 143 = .ok (.iaload, 1) := by decide +kernel
theorem dX3_mixSchedule_144 : decode cX3_mixSchedule 144 = .ok (.iadd, 1) := by decide +kernel
theorem dX3_mixSchedule_145 : decode cX3_mixSchedule 145 = .ok (.istore 12, 2) := by decide +kernel
theorem dX3_mixSchedule_147 : decode cX3_mixSchedule 147 = .ok (.iload_n 1, 1) := by decide +kernel
theorem dX3_mixSchedule_148 : decode cX3_mixSchedule 148 = .ok (.iconst 2, 1) := by decide +kernel
theorem dX3_mixSchedule_149 : decode cX3_mixSchedule 149 = .ok (.invokestatic 51, 3) := by decide +kernel
theorem dX3_mixSchedule_152 : decode cX3_mixSchedule 152 = .ok (.iload_n 1, 1) := by decide +kernel
theorem dX3_mixSchedule_153 : decode cX3_mixSchedule 153 = .ok (.bipush 13, 2) := by decide +kernel
theorem dX3_mixSchedule_155 : decode cX3_mixSchedule 155 = .ok (.invokestatic 51, 3) := by decide +kernel
theorem dX3_mixSchedule_158 : decode cX3_mixSchedule 158 = .ok (.ixor, 1) := by decide +kernel
theorem dX3_mixSchedule_159 : decode cX3_mixSchedule 159 = .ok (.iload_n 1, 1) := by decide +kernel
theorem dX3_mixSchedule_160 : decode cX3_mixSchedule 160 = .ok (.bipush 22, 2) := by decide +kernel
theorem dX3_mixSchedule_162 : decode cX3_mixSchedule 162 = .ok (.invokestatic 51, 3) := by decide +kernel
theorem dX3_mixSchedule_165 : decode cX3_mixSchedule 165 = .ok (.ixor, 1) := by decide +kernel
theorem dX3_mixSchedule_166 : decode cX3_mixSchedule 166 = .ok (.iload 11, 2) := by decide +kernel
theorem dX3_mixSchedule_168 : decode cX3_mixSchedule 168 = .ok (.iadd, 1) := by decide +kernel
theorem dX3_mixSchedule_169 : decode cX3_mixSchedule 169 = .ok (.istore 13, 2) := by decide +kernel
theorem dX3_mixSchedule_171 : decode cX3_mixSchedule 171 = .ok (.iload 7, 2) := by decide +kernel
theorem dX3_mixSchedule_173 : decode cX3_mixSchedule 173 = .ok (.istore 8, 2) := by decide +kernel
theorem dX3_mixSchedule_175 : decode cX3_mixSchedule 175 = .ok (.iload 6, 2) := by decide +kernel
theorem dX3_mixSchedule_177 : decode cX3_mixSchedule 177 = .ok (.istore 7, 2) := by decide +kernel
theorem dX3_mixSchedule_179 : decode cX3_mixSchedule 179 = .ok (.iload 5, 2) := by decide +kernel
theorem dX3_mixSchedule_181 : decode cX3_mixSchedule 181 = .ok (.istore 6, 2) := by decide +kernel
theorem dX3_mixSchedule_183 : decode cX3_mixSchedule 183 = .ok (.iload 4, 2) := by decide +kernel
theorem dX3_mixSchedule_185 : decode cX3_mixSchedule 185 = .ok (.iload 12, 2) := by decide +kernel
theorem dX3_mixSchedule_187 : decode cX3_mixSchedule 187 = .ok (.iadd, 1) := by decide +kernel
theorem dX3_mixSchedule_188 : decode cX3_mixSchedule 188 = .ok (.istore 5, 2) := by decide +kernel
theorem dX3_mixSchedule_190 : decode cX3_mixSchedule 190 = .ok (.iload_n 3, 1) := by decide +kernel
theorem dX3_mixSchedule_191 : decode cX3_mixSchedule 191 = .ok (.istore 4, 2) := by decide +kernel
theorem dX3_mixSchedule_193 : decode cX3_mixSchedule 193 = .ok (.iload_n 2, 1) := by decide +kernel
theorem dX3_mixSchedule_194 : decode cX3_mixSchedule 194 = .ok (.istore_n 3, 1) := by decide +kernel
theorem dX3_mixSchedule_195 : decode cX3_mixSchedule 195 = .ok (.iload_n 1, 1) := by decide +kernel
theorem dX3_mixSchedule_196 : decode cX3_mixSchedule 196 = .ok (.istore_n 2, 1) := by decide +kernel
theorem dX3_mixSchedule_197 : decode cX3_mixSchedule 197 = .ok (.iload 12, 2) := by decide +kernel
theorem dX3_mixSchedule_199 : decode cX3_mixSchedule 199 = .ok (.iload 13, 2) := by decide +kernel
theorem dX3_mixSchedule_201 : decode cX3_mixSchedule 201 = .ok (.iadd, 1) := by decide +kernel
theorem dX3_mixSchedule_202 : decode cX3_mixSchedule 202 = .ok (.istore_n 1, 1) := by decide +kernel
theorem dX3_mixSchedule_203 : decode cX3_mixSchedule 203 = .ok (.iinc 9 1, 3) := by decide +kernel
theorem dX3_mixSchedule_206 : decode cX3_mixSchedule 206 = .ok (.goto (-140), 3) := by decide +kernel
theorem dX3_mixSchedule_209 : decode cX3_mixSchedule 209 = .ok (.aload_n 0, 1) := by decide +kernel
theorem dX3_mixSchedule_210 : decode cX3_mixSchedule 210 = .ok (.getfield 19, 3) := by decide +kernel
theorem dX3_mixSchedule_213 : decode cX3_mixSchedule 213 = .ok (.iconst 0, 1) := by decide +kernel
theorem dX3_mixSchedule_214 : decode cX3_mixSchedule 214 = .ok (.dup2, 1) := by decide +kernel
theorem dX3_mixSchedule_215 : decode cX3_mixSchedule 215 = .ok (.iaload, 1) := by decide +kernel
theorem dX3_mixSchedule_216 : decode cX3_mixSchedule 216 = .ok (.iload_n 1, 1) := by decide +kernel
theorem dX3_mixSchedule_217 : decode cX3_mixSchedule 217 = .ok (.iadd, 1) := by decide +kernel
theorem dX3_mixSchedule_218 : decode cX3_mixSchedule 218 = .ok (.iastore, 1) := by decide +kernel
theorem dX3_mixSchedule_219 : decode cX3_mixSchedule 219 = .ok (.aload_n 0, 1) := by decide +kernel
theorem dX3_mixSchedule_220 : decode cX3_mixSchedule 220 = .ok (.getfield 19, 3) := by decide +kernel
theorem dX3_mixSchedule_223 : decode cX3_mixSchedule 223 = .ok (.iconst 1, 1) := by decide +kernel
theorem dX3_mixSchedule_224 : decode cX3_mixSchedule 224 = .ok (.dup2, 1) := by decide +kernel
theorem dX3_mixSchedule_225 : decode cX3_mixSchedule 225 = .ok (.iaload, 1) := by decide +kernel
theorem dX3_mixSchedule_226 : decode cX3_mixSchedule 226 = .ok (.iload_n 2, 1) := by decide +kernel
theorem dX3_mixSchedule_227 : decode cX3_mixSchedule 227 = .ok (.iadd, 1) := by decide +kernel
theorem dX3_mixSchedule_228 : decode cX3_mixSchedule 228 = .ok (.iastore, 1) := by decide +kernel
theorem dX3_mixSchedule_229 : decode cX3_mixSchedule 229 = .ok (.aload_n 0, 1) := by decide +kernel
theorem dX3_mixSchedule_230 : decode cX3_mixSchedule 230 = .ok (.getfield 19, 3) := by decide +kernel
theorem dX3_mixSchedule_233 : decode cX3_mixSchedule 233 = .ok (.iconst 2, 1) := by decide +kernel
theorem dX3_mixSchedule_234 : decode cX3_mixSchedule 234 = .ok (.dup2, 1) := by decide +kernel
theorem dX3_mixSchedule_235 : decode cX3_mixSchedule 235 = .ok (.iaload, 1) := by decide +kernel
theorem dX3_mixSchedule_236 : decode cX3_mixSchedule 236 = .ok (.iload_n 3, 1) := by decide +kernel
theorem dX3_mixSchedule_237 : decode cX3_mixSchedule 237 = .ok (.iadd, 1) := by decide +kernel
theorem dX3_mixSchedule_238 : decode cX3_mixSchedule 238 = .ok (.iastore, 1) := by decide +kernel
theorem dX3_mixSchedule_239 : decode cX3_mixSchedule 239 = .ok (.aload_n 0, 1) := by decide +kernel
theorem dX3_mixSchedule_240 : decode cX3_mixSchedule 240 = .ok (.getfield 19, 3) := by decide +kernel
theorem dX3_mixSchedule_243 : decode cX3_mixSchedule 243 = .ok (.iconst 3, 1) := by decide +kernel
theorem dX3_mixSchedule_244 : decode cX3_mixSchedule 244 = .ok (.dup2, 1) := by decide +kernel
theorem dX3_mixSchedule_245 : decode cX3_mixSchedule 245 = .ok (.iaload, 1) := by decide +kernel
theorem dX3_mixSchedule_246 : decode cX3_mixSchedule 246 = .ok (.iload 4, 2) := by decide +kernel
theorem dX3_mixSchedule_248 : decode cX3_mixSchedule 248 = .ok (.iadd, 1) := by decide +kernel
theorem dX3_mixSchedule_249 : decode cX3_mixSchedule 249 = .ok (.iastore, 1) := by decide +kernel
theorem dX3_mixSchedule_250 : decode cX3_mixSchedule 250 = .ok (.aload_n 0, 1) := by decide +kernel
theorem dX3_mixSchedule_251 : decode cX3_mixSchedule 251 = .ok (.getfield 19, 3) := by decide +kernel
theorem dX3_mixSchedule_254 : decode cX3_mixSchedule 254 = .ok (.iconst 4, 1) := by decide +kernel
theorem dX3_mixSchedule_255 : decode cX3_mixSchedule 255 = .ok (.dup2, 1) := by decide +kernel
theorem dX3_mixSchedule_256 : decode cX3_mixSchedule 256 = .ok (.iaload, 1) := by decide +kernel
theorem dX3_mixSchedule_257 : decode cX3_mixSchedule 257 = .ok (.iload 5, 2) := by decide +kernel
theorem dX3_mixSchedule_259 : decode cX3_mixSchedule 259 = .ok (.iadd, 1) := by decide +kernel
theorem dX3_mixSchedule_260 : decode cX3_mixSchedule 260 = .ok (.iastore, 1) := by decide +kernel
theorem dX3_mixSchedule_261 : decode cX3_mixSchedule 261 = .ok (.aload_n 0, 1) := by decide +kernel
theorem dX3_mixSchedule_262 : decode cX3_mixSchedule 262 = .ok (.getfield 19, 3) := by decide +kernel
theorem dX3_mixSchedule_265 : decode cX3_mixSchedule 265 = .ok (.iconst 5, 1) := by decide +kernel
theorem dX3_mixSchedule_266 : decode cX3_mixSchedule 266 = .ok (.dup2, 1) := by decide +kernel
theorem dX3_mixSchedule_267 : decode cX3_mixSchedule 267 = .ok (.iaload, 1) := by decide +kernel
theorem dX3_mixSchedule_268 : decode cX3_mixSchedule 268 = .ok (.iload 6, 2) := by decide +kernel
theorem dX3_mixSchedule_270 : decode cX3_mixSchedule 270 = .ok (.iadd, 1) := by decide +kernel
theorem dX3_mixSchedule_271 : decode cX3_mixSchedule 271 = .ok (.iastore, 1) := by decide +kernel
theorem dX3_mixSchedule_272 : decode cX3_mixSchedule 272 = .ok (.aload_n 0, 1) := by decide +kernel
theorem dX3_mixSchedule_273 : decode cX3_mixSchedule 273 = .ok (.getfield 19, 3) := by decide +kernel
theorem dX3_mixSchedule_276 : decode cX3_mixSchedule 276 = .ok (.bipush 6, 2) := by decide +kernel
theorem dX3_mixSchedule_278 : decode cX3_mixSchedule 278 = .ok (.dup2, 1) := by decide +kernel
theorem dX3_mixSchedule_279 : decode cX3_mixSchedule 279 = .ok (.iaload, 1) := by decide +kernel
theorem dX3_mixSchedule_280 : decode cX3_mixSchedule 280 = .ok (.iload 7, 2) := by decide +kernel
theorem dX3_mixSchedule_282 : decode cX3_mixSchedule 282 = .ok (.iadd, 1) := by decide +kernel
theorem dX3_mixSchedule_283 : decode cX3_mixSchedule 283 = .ok (.iastore, 1) := by decide +kernel
theorem dX3_mixSchedule_284 : decode cX3_mixSchedule 284 = .ok (.aload_n 0, 1) := by decide +kernel
theorem dX3_mixSchedule_285 : decode cX3_mixSchedule 285 = .ok (.getfield 19, 3) := by decide +kernel
theorem dX3_mixSchedule_288 : decode cX3_mixSchedule 288 = .ok (.bipush 7, 2) := by decide +kernel
theorem dX3_mixSchedule_290 : decode cX3_mixSchedule 290 = .ok (.dup2, 1) := by decide +kernel
theorem dX3_mixSchedule_291 : decode cX3_mixSchedule 291 = .ok (.iaload, 1) := by decide +kernel
theorem dX3_mixSchedule_292 : decode cX3_mixSchedule 292 = .ok (.iload 8, 2) := by decide +kernel
theorem dX3_mixSchedule_294 : decode cX3_mixSchedule 294 = .ok (.iadd, 1) := by decide +kernel
theorem dX3_mixSchedule_295 : decode cX3_mixSchedule 295 = .ok (.iastore, 1) := by decide +kernel
theorem dX3_mixSchedule_296 : decode cX3_mixSchedule 296 = .ok (.return_, 1) := by decide +kernel
theorem dX3_turn_0 : decode cX3_turn 0 = .ok (.iload_n 0, 1) := by decide +kernel
theorem dX3_turn_1 : decode cX3_turn 1 = .ok (.iload_n 1, 1) := by decide +kernel
theorem dX3_turn_2 : decode cX3_turn 2 = .ok (.iushr, 1) := by decide +kernel
theorem dX3_turn_3 : decode cX3_turn 3 = .ok (.iload_n 0, 1) := by decide +kernel
theorem dX3_turn_4 : decode cX3_turn 4 = .ok (.bipush 32, 2) := by decide +kernel
theorem dX3_turn_6 : decode cX3_turn 6 = .ok (.iload_n 1, 1) := by decide +kernel
theorem dX3_turn_7 : decode cX3_turn 7 = .ok (.isub, 1) := by decide +kernel
theorem dX3_turn_8 : decode cX3_turn 8 = .ok (.ishl, 1) := by decide +kernel
theorem dX3_turn_9 : decode cX3_turn 9 = .ok (.ior, 1) := by decide +kernel
theorem dX3_turn_10 : decode cX3_turn 10 = .ok (.ireturn, 1) := by decide +kernel
theorem dX4_init_0 : decode cX4_init 0 = .ok (.aload_n 0, 1) := by decide +kernel
theorem dX4_init_1 : decode cX4_init 1 = .ok (.invokespecial 1, 3) := by decide +kernel
theorem dX4_init_4 : decode cX4_init 4 = .ok (.aload_n 0, 1) := by decide +kernel
theorem dX4_init_5 : decode cX4_init 5 = .ok (.iconst 0, 1) := by decide +kernel
theorem dX4_init_6 : decode cX4_init 6 = .ok (.putfield 7, 3) := by decide +kernel
theorem dX4_init_9 : decode cX4_init 9 = .ok (.aload_n 0, 1) := by decide +kernel
theorem dX4_init_10 : decode cX4_init 10 = .ok (.iconst 0, 1) := by decide +kernel
theorem dX4_init_11 : decode cX4_init 11 = .ok (.putfield 13, 3) := by decide +kernel
theorem dX4_init_14 : decode cX4_init 14 = .ok (.aload_n 0, 1) := by decide +kernel
theorem dX4_init_15 : decode cX4_init 15 = .ok (.lconst 0, 1) := by decide +kernel
theorem dX4_init_16 : decode cX4_init 16 = .ok (.putfield 17, 3) := by decide +kernel
theorem dX4_init_19 : decode cX4_init 19 = .ok (.aload_n 0, 1) := by decide +kernel
theorem dX4_init_20 : decode cX4_init 20 = .ok (.lconst 0, 1) := by decide +kernel
theorem dX4_init_21 : decode cX4_init 21 = .ok (.putfield 21, 3) := by decide +kernel
theorem dX4_init_24 : decode cX4_init 24 = .ok (.aload_n 0, 1) := by decide +kernel
theorem dX4_init_25 : decode cX4_init 25 = .ok (.lconst 0, 1) := by decide +kernel
theorem dX4_init_26 : decode cX4_init 26 = .ok (.putfield 24, 3) := by decide +kernel
theorem dX4_init_29 : decode cX4_init 29 = .ok (.return_, 1) := by decide +kernel
theorem dX4_begin_0 : decode cX4_begin 0 = .ok (.aload_n 0, 1) := by decide +kernel
theorem dX4_begin_1 : decode cX4_begin 1 = .ok (.iconst 1, 1) := by decide +kernel
theorem dX4_begin_2 : decode cX4_begin 2 = .ok (.putfield 7, 3) := by decide +kernel
theorem dX4_begin_5 : decode cX4_begin 5 = .ok (.aload_n 0, 1) := by decide +kernel
theorem dX4_begin_6 : decode cX4_begin 6 = .ok (.iload_n 1, 1) := by decide +kernel
theorem dX4_begin_7 : decode cX4_begin 7 = .ok (.putfield 13, 3) := by decide +kernel
theorem dX4_begin_10 : decode cX4_begin 10 = .ok (.aload_n 0, 1) := by decide +kernel
theorem dX4_begin_11 : decode cX4_begin 11 = .ok (.lload_n 2, 1) := by decide +kernel
theorem dX4_begin_12 : decode cX4_begin 12 = .ok (.putfield 17, 3) := by decide +kernel
theorem dX4_begin_15 : decode cX4_begin 15 = .ok (.aload_n 0, 1) := by decide +kernel
theorem dX4_begin_16 : decode cX4_begin 16 = .ok (.lload 4, 2) := by decide +kernel
theorem dX4_begin_18 : decode cX4_begin 18 = .ok (.putfield 21, 3) := by decide +kernel
theorem dX4_begin_21 : decode cX4_begin 21 = .ok (.aload_n 0, 1) := by decide +kernel
theorem dX4_begin_22 : decode cX4_begin 22 = .ok (.lload 4, 2) := by decide +kernel
theorem dX4_begin_24 : decode cX4_begin 24 = .ok (.putfield 24, 3) := by decide +kernel
theorem dX4_begin_27 : decode cX4_begin 27 = .ok (.return_, 1) := by decide +kernel
theorem dX5_init_0 : decode cX5_init 0 = .ok (.aload_n 0, 1) := by decide +kernel
theorem dX5_init_1 : decode cX5_init 1 = .ok (.invokespecial 3, 3) := by decide +kernel
theorem dX5_init_4 : decode cX5_init 4 = .ok (.aload_n 0, 1) := by decide +kernel
theorem dX5_init_5 : decode cX5_init 5 = .ok (.bipush 40, 2) := by decide +kernel
theorem dX5_init_7 : decode cX5_init 7 = .ok (.newarray .int, 2) := by decide +kernel
theorem dX5_init_9 : decode cX5_init 9 = .ok (.putfield 9, 3) := by decide +kernel
theorem dX5_init_12 : decode cX5_init 12 = .ok (.aload_n 0, 1) := by decide +kernel
theorem dX5_init_13 : decode cX5_init 13 = .ok (.iconst 0, 1) := by decide +kernel
theorem dX5_init_14 : decode cX5_init 14 = .ok (.putfield 15, 3) := by decide +kernel
theorem dX5_init_17 : decode cX5_init 17 = .ok (.return_, 1) := by decide +kernel
theorem dX5_has_0 : decode cX5_has 0 = .ok (.iload_n 1, 1) := by decide +kernel
theorem dX5_has_1 : decode cX5_has 1 = .ok (.ifCond .lt 15, 3) := by decide +kernel
theorem dX5_has_4 : decode cX5_has 4 = .ok (.iload_n 1, 1) := by decide +kernel
theorem dX5_has_5 : decode cX5_has 5 = .ok (.aload_n 0, 1) := by decide +kernel
theorem dX5_has_6 : decode cX5_has 6 = .ok (.getfield 15, 3) := by decide +kernel
theorem dX5_has_9 : decode cX5_has 9 = .ok (.if_icmp .ge 7, 3) := by decide +kernel
theorem dX5_has_12 : decode cX5_has 12 = .ok (.iconst 1, 1) := by decide +kernel
theorem dX5_has_13 : decode cX5_has 13 = .ok (.goto 4, 3) := by decide +kernel
theorem dX5_has_16 : decode cX5_has 16 = .ok (.iconst 0, 1) := by decide +kernel
theorem dX5_has_17 : decode cX5_has 17 = .ok (.ireturn, 1) := by decide +kernel
theorem dX5_addSign_0 : decode cX5_addSign 0 = .ok (.aload_n 0, 1) := by decide +kernel
theorem dX5_addSign_1 : decode cX5_addSign 1 = .ok (.getfield 15, 3) := by decide +kernel
theorem dX5_addSign_4 : decode cX5_addSign 4 = .ok (.bipush 40, 2) := by decide +kernel
theorem dX5_addSign_6 : decode cX5_addSign 6 = .ok (.if_icmp .ge 23, 3) := by decide +kernel
theorem dX5_addSign_9 : decode cX5_addSign 9 = .ok (.aload_n 0, 1) := by decide +kernel
theorem dX5_addSign_10 : decode cX5_addSign 10 = .ok (.getfield 9, 3) := by decide +kernel
theorem dX5_addSign_13 : decode cX5_addSign 13 = .ok (.aload_n 0, 1) := by decide +kernel
theorem dX5_addSign_14 : decode cX5_addSign 14 = .ok (.getfield 15, 3) := by decide +kernel
theorem dX5_addSign_17 : decode cX5_addSign 17 = .ok (.iload_n 1, 1) := by decide +kernel
theorem dX5_addSign_18 : decode cX5_addSign 18 = .ok (.iastore, 1) := by decide +kernel
theorem dX5_addSign_19 : decode cX5_addSign 19 = .ok (.aload_n 0, 1) := by decide +kernel
theorem dX5_addSign_20 : decode cX5_addSign 20 = .ok (.dup, 1) := by decide +kernel
theorem dX5_addSign_21 : decode cX5_addSign 21 = .ok (.getfield 15, 3) := by decide +kernel
theorem dX5_addSign_24 : decode cX5_addSign 24 = .ok (.iconst 1, 1) := by decide +kernel
theorem dX5_addSign_25 : decode cX5_addSign 25 = .ok (.iadd, 1) := by decide +kernel
theorem dX5_addSign_26 : decode cX5_addSign 26 = .ok (.putfield 15, 3) := by decide +kernel
theorem dX5_addSign_29 : decode cX5_addSign 29 = .ok (.return_, 1) := by decide +kernel
theorem dX5_addSigns_0 : decode cX5_addSigns 0 = .ok (.iconst 0, 1) := by decide +kernel
theorem dX5_addSigns_1 : decode cX5_addSigns 1 = .ok (.istore_n 2, 1) := by decide +kernel
theorem dX5_addSigns_2 : decode cX5_addSigns 2 = .ok (.iload_n 2, 1) := by decide +kernel
theorem dX5_addSigns_3 : decode cX5_addSigns 3 = .ok (.iconst 4, 1) := by decide +kernel
theorem dX5_addSigns_4 : decode cX5_addSigns 4 = .ok (.if_icmp .ge 24, 3) := by decide +kernel
theorem dX5_addSigns_7 : decode cX5_addSigns 7 = .ok (.iload_n 1, 1) := by decide +kernel
theorem dX5_addSigns_8 : decode cX5_addSigns 8 = .ok (.iload_n 2, 1) := by decide +kernel
theorem dX5_addSigns_9 : decode cX5_addSigns 9 = .ok (.invokestatic 19, 3) := by decide +kernel
theorem dX5_addSigns_12 : decode cX5_addSigns 12 = .ok (.istore_n 3, 1) := by decide +kernel
theorem dX5_addSigns_13 : decode cX5_addSigns 13 = .ok (.iload_n 3, 1) := by decide +kernel
theorem dX5_addSigns_14 : decode cX5_addSigns 14 = .ok (.ifCond .eq 8, 3) := by decide +kernel
theorem dX5_addSigns_17 : decode cX5_addSigns 17 = .ok (.aload_n 0, 1) := by decide +kernel
theorem dX5_addSigns_18 : decode cX5_addSigns 18 = .ok (.iload_n 3, 1) := by decide +kernel
theorem dX5_addSigns_19 : decode cX5_addSigns 19 = .ok (.invokevirtual 23, 3) := by decide +kernel
theorem dX5_addSigns_22 : decode cX5_addSigns 22 = .ok (.iinc 2 1, 3) := by decide +kernel
theorem dX5_addSigns_25 : decode cX5_addSigns 25 = .ok (.goto (-23), 3) := by decide +kernel
theorem dX5_addSigns_28 : decode cX5_addSigns 28 = .ok (.return_, 1) := by decide +kernel
theorem dX5_isSameAs_0 : decode cX5_isSameAs 0 = .ok (.aload_n 0, 1) := by decide +kernel
theorem dX5_isSameAs_1 : decode cX5_isSameAs 1 = .ok (.getfield 15, 3) := by decide +kernel
theorem dX5_isSameAs_4 : decode cX5_isSameAs 4 = .ok (.aload_n 1, 1) := by decide +kernel
theorem dX5_isSameAs_5 : decode cX5_isSameAs 5 = .ok (.getfield 15, 3) := by decide +kernel
theorem dX5_isSameAs_8 : decode cX5_isSameAs 8 = .ok (.if_icmp .eq 5, 3) := by decide +kernel
theorem dX5_isSameAs_11 : decode cX5_isSameAs 11 = .ok (.iconst 0, 1) := by decide +kernel
theorem dX5_isSameAs_12 : decode cX5_isSameAs 12 = .ok (.ireturn, 1) := by decide +kernel
theorem dX5_isSameAs_13 : decode cX5_isSameAs 13 = .ok (.iconst 0, 1) := by decide +kernel
theorem dX5_isSameAs_14 : decode cX5_isSameAs 14 = .ok (.istore_n 2, 1) := by decide +kernel
theorem dX5_isSameAs_15 : decode cX5_isSameAs 15 = .ok (.iload_n 2, 1) := by decide +kernel
theorem dX5_isSameAs_16 : decode cX5_isSameAs 16 = .ok (.aload_n 0, 1) := by decide +kernel
theorem dX5_isSameAs_17 : decode cX5_isSameAs 17 = .ok (.getfield 15, 3) := by decide +kernel
theorem dX5_isSameAs_20 : decode cX5_isSameAs 20 = .ok (.if_icmp .ge 26, 3) := by decide +kernel
theorem dX5_isSameAs_23 : decode cX5_isSameAs 23 = .ok (.aload_n 0, 1) := by decide +kernel
theorem dX5_isSameAs_24 : decode cX5_isSameAs 24 = .ok (.getfield 9, 3) := by decide +kernel
theorem dX5_isSameAs_27 : decode cX5_isSameAs 27 = .ok (.iload_n 2, 1) := by decide +kernel
theorem dX5_isSameAs_28 : decode cX5_isSameAs 28 = .ok (.iaload, 1) := by decide +kernel
theorem dX5_isSameAs_29 : decode cX5_isSameAs 29 = .ok (.aload_n 1, 1) := by decide +kernel
theorem dX5_isSameAs_30 : decode cX5_isSameAs 30 = .ok (.getfield 9, 3) := by decide +kernel
theorem dX5_isSameAs_33 : decode cX5_isSameAs 33 = .ok (.iload_n 2, 1) := by decide +kernel
theorem dX5_isSameAs_34 : decode cX5_isSameAs 34 = .ok (.iaload, 1) := by decide +kernel
theorem dX5_isSameAs_35 : decode cX5_isSameAs 35 = .ok (.if_icmp .eq 5, 3) := by decide +kernel
theorem dX5_isSameAs_38 : decode cX5_isSameAs 38 = .ok (.iconst 0, 1) := by decide +kernel
theorem dX5_isSameAs_39 : decode cX5_isSameAs 39 = .ok (.ireturn, 1) := by decide +kernel
theorem dX5_isSameAs_40 : decode cX5_isSameAs 40 = .ok (.iinc 2 1, 3) := by decide +kernel
theorem dX5_isSameAs_43 : decode cX5_isSameAs 43 = .ok (.goto (-28), 3) := by decide +kernel
theorem dX5_isSameAs_46 : decode cX5_isSameAs 46 = .ok (.iconst 1, 1) := by decide +kernel
theorem dX5_isSameAs_47 : decode cX5_isSameAs 47 = .ok (.ireturn, 1) := by decide +kernel
theorem dX6_init_0 : decode cX6_init 0 = .ok (.aload_n 0, 1) := by decide +kernel
theorem dX6_init_1 : decode cX6_init 1 = .ok (.invokespecial 1, 3) := by decide +kernel
theorem dX6_init_4 : decode cX6_init 4 = .ok (.aload_n 0, 1) := by decide +kernel
theorem dX6_init_5 : decode cX6_init 5 = .ok (.iconst 0, 1) := by decide +kernel
theorem dX6_init_6 : decode cX6_init 6 = .ok (.putfield 7, 3) := by decide +kernel
theorem dX6_init_9 : decode cX6_init 9 = .ok (.aload_n 0, 1) := by decide +kernel
theorem dX6_init_10 : decode cX6_init 10 = .ok (.iconst 0, 1) := by decide +kernel
theorem dX6_init_11 : decode cX6_init 11 = .ok (.putfield 13, 3) := by decide +kernel
theorem dX6_init_14 : decode cX6_init 14 = .ok (.aload_n 0, 1) := by decide +kernel
theorem dX6_init_15 : decode cX6_init 15 = .ok (.iconst 0, 1) := by decide +kernel
theorem dX6_init_16 : decode cX6_init 16 = .ok (.putfield 17, 3) := by decide +kernel
theorem dX6_init_19 : decode cX6_init 19 = .ok (.return_, 1) := by decide +kernel
theorem dX6_tell_0 : decode cX6_tell 0 = .ok (.aload_n 0, 1) := by decide +kernel
theorem dX6_tell_1 : decode cX6_tell 1 = .ok (.iconst 1, 1) := by decide +kernel
theorem dX6_tell_2 : decode cX6_tell 2 = .ok (.putfield 7, 3) := by decide +kernel
theorem dX6_tell_5 : decode cX6_tell 5 = .ok (.aload_n 0, 1) := by decide +kernel
theorem dX6_tell_6 : decode cX6_tell 6 = .ok (.iload_n 1, 1) := by decide +kernel
theorem dX6_tell_7 : decode cX6_tell 7 = .ok (.putfield 13, 3) := by decide +kernel
theorem dX6_tell_10 : decode cX6_tell 10 = .ok (.aload_n 0, 1) := by decide +kernel
theorem dX6_tell_11 : decode cX6_tell 11 = .ok (.iload_n 2, 1) := by decide +kernel
theorem dX6_tell_12 : decode cX6_tell 12 = .ok (.putfield 17, 3) := by decide +kernel
theorem dX6_tell_15 : decode cX6_tell 15 = .ok (.return_, 1) := by decide +kernel
theorem dX6_knows_0 : decode cX6_knows 0 = .ok (.aload_n 0, 1) := by decide +kernel
theorem dX6_knows_1 : decode cX6_knows 1 = .ok (.getfield 7, 3) := by decide +kernel
theorem dX6_knows_4 : decode cX6_knows 4 = .ok (.ifCond .eq 23, 3) := by decide +kernel
theorem dX6_knows_7 : decode cX6_knows 7 = .ok (.aload_n 0, 1) := by decide +kernel
theorem dX6_knows_8 : decode cX6_knows 8 = .ok (.getfield 13, 3) := by decide +kernel
theorem dX6_knows_11 : decode cX6_knows 11 = .ok (.iload_n 1, 1) := by decide +kernel
theorem dX6_knows_12 : decode cX6_knows 12 = .ok (.if_icmp .ne 15, 3) := by decide +kernel
theorem dX6_knows_15 : decode cX6_knows 15 = .ok (.aload_n 0, 1) := by decide +kernel
theorem dX6_knows_16 : decode cX6_knows 16 = .ok (.getfield 17, 3) := by decide +kernel
theorem dX6_knows_19 : decode cX6_knows 19 = .ok (.iload_n 2, 1) := by decide +kernel
theorem dX6_knows_20 : decode cX6_knows 20 = .ok (.if_icmp .ne 7, 3) := by decide +kernel
theorem dX6_knows_23 : decode cX6_knows 23 = .ok (.iconst 1, 1) := by decide +kernel
theorem dX6_knows_24 : decode cX6_knows 24 = .ok (.goto 4, 3) := by decide +kernel
theorem dX6_knows_27 : decode cX6_knows 27 = .ok (.iconst 0, 1) := by decide +kernel
theorem dX6_knows_28 : decode cX6_knows 28 = .ok (.ireturn, 1) := by decide +kernel
theorem dJ11_isValidCodePoint_9a6ad_0 : decode cJ11_isValidCodePoint_9a6ad 0 = .ok (.iload_n 0, 1) := by decide +kernel
theorem dJ11_isValidCodePoint_9a6ad_1 : decode cJ11_isValidCodePoint_9a6ad 1 = .ok (.bipush 16, 2) := by decide +kernel
theorem dJ11_isValidCodePoint_9a6ad_3 : decode cJ11_isValidCodePoint_9a6ad 3 = .ok (.iushr, 1) := by decide +kernel
theorem dJ11_isValidCodePoint_9a6ad_4 : decode cJ11_isValidCodePoint_9a6ad 4 = .ok (.istore_n 1, 1) := by decide +kernel
theorem dJ11_isValidCodePoint_9a6ad_5 : decode cJ11_isValidCodePoint_9a6ad 5 = .ok (.iload_n 1, 1) := by decide +kernel
theorem dJ11_isValidCodePoint_9a6ad_6 : decode cJ11_isValidCodePoint_9a6ad 6 = .ok (.bipush 17, 2) := by decide +kernel
theorem dJ11_isValidCodePoint_9a6ad_8 : decode cJ11_isValidCodePoint_9a6ad 8 = .ok (.if_icmp .ge 7, 3) := by decide +kernel
theorem dJ11_isValidCodePoint_9a6ad_11 : decode cJ11_isValidCodePoint_9a6ad 11 = .ok (.iconst 1, 1) := by decide +kernel
theorem dJ11_isValidCodePoint_9a6ad_12 : decode cJ11_isValidCodePoint_9a6ad 12 = .ok (.goto 4, 3) := by decide +kernel
theorem dJ11_isValidCodePoint_9a6ad_15 : decode cJ11_isValidCodePoint_9a6ad 15 = .ok (.iconst 0, 1) := by decide +kernel
theorem dJ11_isValidCodePoint_9a6ad_16 : decode cJ11_isValidCodePoint_9a6ad 16 = .ok (.ireturn, 1) := by decide +kernel
theorem dJ11_highSurrogate_5068e_0 : decode cJ11_highSurrogate_5068e 0 = .ok (.iload_n 0, 1) := by decide +kernel
theorem dJ11_highSurrogate_5068e_1 : decode cJ11_highSurrogate_5068e 1 = .ok (.bipush 10, 2) := by decide +kernel
theorem dJ11_highSurrogate_5068e_3 : decode cJ11_highSurrogate_5068e 3 = .ok (.iushr, 1) := by decide +kernel
theorem dJ11_highSurrogate_5068e_4 : decode cJ11_highSurrogate_5068e 4 = .ok (.ldc 110, 2) := by decide +kernel
theorem dJ11_highSurrogate_5068e_6 : decode cJ11_highSurrogate_5068e 6 = .ok (.iadd, 1) := by decide +kernel
theorem dJ11_highSurrogate_5068e_7 : decode cJ11_highSurrogate_5068e 7 = .ok (.i2c, 1) := by decide +kernel
theorem dJ11_highSurrogate_5068e_8 : decode cJ11_highSurrogate_5068e 8 = .ok (.ireturn, 1) := by decide +kernel
theorem dJ11_lowSurrogate_5068e_0 : decode cJ11_lowSurrogate_5068e 0 = .ok (.iload_n 0, 1) := by decide +kernel
theorem dJ11_lowSurrogate_5068e_1 : decode cJ11_lowSurrogate_5068e 1 = .ok (.sipush 1023, 3) := by decide +kernel
theorem dJ11_lowSurrogate_5068e_4 : decode cJ11_lowSurrogate_5068e 4 = .ok (.iand, 1) := by decide +kernel
theorem dJ11_lowSurrogate_5068e_5 : decode cJ11_lowSurrogate_5068e 5 = .ok (.ldc 76, 2) := by decide +kernel
theorem dJ11_lowSurrogate_5068e_7 : decode cJ11_lowSurrogate_5068e 7 = .ok (.iadd, 1) := by decide +kernel
theorem dJ11_lowSurrogate_5068e_8 : decode cJ11_lowSurrogate_5068e 8 = .ok (.i2c, 1) := by decide +kernel
theorem dJ11_lowSurrogate_5068e_9 : decode cJ11_lowSurrogate_5068e 9 = .ok (.ireturn, 1) := by decide +kernel
theorem dJ9_max_7cf53_0 : decode cJ9_max_7cf53 0 = .ok (.iload_n 0, 1) := by decide +kernel
theorem dJ9_max_7cf53_1 : decode cJ9_max_7cf53 1 = .ok (.iload_n 1, 1) := by decide +kernel
theorem dJ9_max_7cf53_2 : decode cJ9_max_7cf53 2 = .ok (.if_icmp .lt 7, 3) := by decide +kernel
theorem dJ9_max_7cf53_5 : decode cJ9_max_7cf53 5 = .ok (.iload_n 0, 1) := by decide +kernel
theorem dJ9_max_7cf53_6 : decode cJ9_max_7cf53 6 = .ok (.goto 4, 3) := by decide +kernel
theorem dJ9_max_7cf53_9 : decode cJ9_max_7cf53 9 = .ok (.iload_n 1, 1) := by decide +kernel
theorem dJ9_max_7cf53_10 : decode cJ9_max_7cf53 10 = .ok (.ireturn, 1) := by decide +kernel
theorem dJ9_min_7cf53_0 : decode cJ9_min_7cf53 0 = .ok (.iload_n 0, 1) := by decide +kernel
theorem dJ9_min_7cf53_1 : decode cJ9_min_7cf53 1 = .ok (.iload_n 1, 1) := by decide +kernel
theorem dJ9_min_7cf53_2 : decode cJ9_min_7cf53 2 = .ok (.if_icmp .gt 7, 3) := by decide +kernel
theorem dJ9_min_7cf53_5 : decode cJ9_min_7cf53 5 = .ok (.iload_n 0, 1) := by decide +kernel
theorem dJ9_min_7cf53_6 : decode cJ9_min_7cf53 6 = .ok (.goto 4, 3) := by decide +kernel
theorem dJ9_min_7cf53_9 : decode cJ9_min_7cf53 9 = .ok (.iload_n 1, 1) := by decide +kernel
theorem dJ9_min_7cf53_10 : decode cJ9_min_7cf53 10 = .ok (.ireturn, 1) := by decide +kernel
theorem dJ0_length_8abf5_0 : decode cJ0_length_8abf5 0 = .ok (.aload_n 0, 1) := by decide +kernel
theorem dJ0_length_8abf5_1 : decode cJ0_length_8abf5 1 = .ok (.getfield 9, 3) := by decide +kernel
theorem dJ0_length_8abf5_4 : decode cJ0_length_8abf5 4 = .ok (.arraylength, 1) := by decide +kernel
theorem dJ0_length_8abf5_5 : decode cJ0_length_8abf5 5 = .ok (.aload_n 0, 1) := by decide +kernel
theorem dJ0_length_8abf5_6 : decode cJ0_length_8abf5 6 = .ok (.invokevirtual 335, 3) := by decide +kernel
theorem dJ0_length_8abf5_9 : decode cJ0_length_8abf5 9 = .ok (.ishr, 1) := by decide +kernel
theorem dJ0_length_8abf5_10 : decode cJ0_length_8abf5 10 = .ok (.ireturn, 1) := by decide +kernel
theorem dJ0_charAt_5068e_0 : decode cJ0_charAt_5068e 0 = .ok (.aload_n 0, 1) := by decide +kernel
theorem dJ0_charAt_5068e_1 : decode cJ0_charAt_5068e 1 = .ok (.invokevirtual 492, 3) := by decide +kernel
theorem dJ0_charAt_5068e_4 : decode cJ0_charAt_5068e 4 = .ok (.ifCond .eq 12, 3) := by decide +kernel
theorem dJ0_charAt_5068e_7 : decode cJ0_charAt_5068e 7 = .ok (.aload_n 0, 1) := by decide +kernel
theorem dJ0_charAt_5068e_8 : decode cJ0_charAt_5068e 8 = .ok (.getfield 9, 3) := by decide +kernel
theorem dJ0_charAt_5068e_11 : decode cJ0_charAt_5068e 11 = .ok (.iload_n 1, 1) := by decide +kernel
theorem dJ0_charAt_5068e_12 : decode cJ0_charAt_5068e 12 = .ok (.invokestatic 495, 3) := by decide +kernel
theorem dJ0_charAt_5068e_15 : decode cJ0_charAt_5068e 15 = .ok (.ireturn, 1) := by decide +kernel
theorem dJ0_charAt_5068e_16 : decode cJ0_charAt_5068e 16 = .ok (.aload_n 0, 1) := by decide +kernel
theorem dJ0_charAt_5068e_17 : decode cJ0_charAt_5068e 17 = .ok (.getfield 9, 3) := by decide +kernel
theorem dJ0_charAt_5068e_20 : decode cJ0_charAt_5068e 20 = .ok (.iload_n 1, 1) := by decide +kernel
theorem dJ0_charAt_5068e_21 : decode cJ0_charAt_5068e 21 = .ok (.invokestatic 498, 3) := by decide +kernel
theorem dJ0_charAt_5068e_24 : decode cJ0_charAt_5068e 24 = .ok (.ireturn, 1) := by decide +kernel
theorem dJ0_indexOf_0f7a4_0 : decode cJ0_indexOf_0f7a4 0 = .ok (.aload_n 0, 1) := by decide +kernel
theorem dJ0_indexOf_0f7a4_1 : decode cJ0_indexOf_0f7a4 1 = .ok (.iload_n 1, 1) := by decide +kernel
theorem dJ0_indexOf_0f7a4_2 : decode cJ0_indexOf_0f7a4 2 = .ok (.iconst 0, 1) := by decide +kernel
theorem dJ0_indexOf_0f7a4_3 : decode cJ0_indexOf_0f7a4 3 = .ok (.invokevirtual 633, 3) := by decide +kernel
theorem dJ0_indexOf_0f7a4_6 : decode cJ0_indexOf_0f7a4 6 = .ok (.ireturn, 1) := by decide +kernel
theorem dJ0_indexOf_7cf53_0 : decode cJ0_indexOf_7cf53 0 = .ok (.aload_n 0, 1) := by decide +kernel
theorem dJ0_indexOf_7cf53_1 : decode cJ0_indexOf_7cf53 1 = .ok (.invokevirtual 492, 3) := by decide +kernel
theorem dJ0_indexOf_7cf53_4 : decode cJ0_indexOf_7cf53 4 = .ok (.ifCond .eq 19, 3) := by decide +kernel
theorem dJ0_indexOf_7cf53_7 : decode cJ0_indexOf_7cf53 7 = .ok (.aload_n 0, 1) := by decide +kernel
theorem dJ0_indexOf_7cf53_8 : decode cJ0_indexOf_7cf53 8 = .ok (.getfield 9, 3) := by decide +kernel
theorem dJ0_indexOf_7cf53_11 : decode cJ0_indexOf_7cf53 11 = .ok (.iload_n 1, 1) := by decide +kernel
theorem dJ0_indexOf_7cf53_12 : decode cJ0_indexOf_7cf53 12 = .ok (.iload_n 2, 1) := by decide +kernel
theorem dJ0_indexOf_7cf53_13 : decode cJ0_indexOf_7cf53 13 = .ok (.aload_n 0, 1) := by decide +kernel
theorem dJ0_indexOf_7cf53_14 : decode cJ0_indexOf_7cf53 14 = .ok (.invokevirtual 505, 3) := by decide +kernel
theorem dJ0_indexOf_7cf53_17 : decode cJ0_indexOf_7cf53 17 = .ok (.invokestatic 637, 3) := by decide +kernel
theorem dJ0_indexOf_7cf53_20 : decode cJ0_indexOf_7cf53 20 = .ok (.goto 16, 3) := by decide +kernel
theorem dJ0_indexOf_7cf53_23 : decode cJ0_indexOf_7cf53 23 = .ok (.aload_n 0, 1) := by decide +kernel
theorem dJ0_indexOf_7cf53_24 : decode cJ0_indexOf_7cf53 24 = .ok (.getfield 9, 3) := by decide +kernel
theorem dJ0_indexOf_7cf53_27 : decode cJ0_indexOf_7cf53 27 = .ok (.iload_n 1, 1) := by decide +kernel
theorem dJ0_indexOf_7cf53_28 : decode cJ0_indexOf_7cf53 28 = .ok (.iload_n 2, 1) := by decide +kernel
theorem dJ0_indexOf_7cf53_29 : decode cJ0_indexOf_7cf53 29 = .ok (.aload_n 0, 1) := by decide +kernel
theorem dJ0_indexOf_7cf53_30 : decode cJ0_indexOf_7cf53 30 = .ok (.invokevirtual 505, 3) := by decide +kernel
theorem dJ0_indexOf_7cf53_33 : decode cJ0_indexOf_7cf53 33 = .ok (.invokestatic 640, 3) := by decide +kernel
theorem dJ0_indexOf_7cf53_36 : decode cJ0_indexOf_7cf53 36 = .ok (.ireturn, 1) := by decide +kernel
theorem dJ0_coder_7d493_0 : decode cJ0_coder_7d493 0 = .ok (.getstatic 38, 3) := by decide +kernel
theorem dJ0_coder_7d493_3 : decode cJ0_coder_7d493 3 = .ok (.ifCond .eq 10, 3) := by decide +kernel
theorem dJ0_coder_7d493_6 : decode cJ0_coder_7d493 6 = .ok (.aload_n 0, 1) := by decide +kernel
theorem dJ0_coder_7d493_7 : decode cJ0_coder_7d493 7 = .ok (.getfield 15, 3) := by decide +kernel
theorem dJ0_coder_7d493_10 : decode cJ0_coder_7d493 10 = .ok (.goto 4, 3) := by decide +kernel
theorem dJ0_coder_7d493_13 : decode cJ0_coder_7d493 13 = .ok (.iconst 1, 1) := by decide +kernel
theorem dJ0_coder_7d493_14 : decode cJ0_coder_7d493 14 = .ok (.ireturn, 1) := by decide +kernel
theorem dJ0_isLatin1_aae02_0 : decode cJ0_isLatin1_aae02 0 = .ok (.getstatic 38, 3) := by decide +kernel
theorem dJ0_isLatin1_aae02_3 : decode cJ0_isLatin1_aae02 3 = .ok (.ifCond .eq 14, 3) := by decide +kernel
theorem dJ0_isLatin1_aae02_6 : decode cJ0_isLatin1_aae02 6 = .ok (.aload_n 0, 1) := by decide +kernel
theorem dJ0_isLatin1_aae02_7 : decode cJ0_isLatin1_aae02 7 = .ok (.getfield 15, 3) := by decide +kernel
theorem dJ0_isLatin1_aae02_10 : decode cJ0_isLatin1_aae02 10 = .ok (.ifCond .ne 7, 3) := by decide +kernel
theorem dJ0_isLatin1_aae02_13 : decode cJ0_isLatin1_aae02 13 = .ok (.iconst 1, 1) := by decide +kernel
theorem dJ0_isLatin1_aae02_14 : decode cJ0_isLatin1_aae02 14 = .ok (.goto 4, 3) := by decide +kernel
theorem dJ0_isLatin1_aae02_17 : decode cJ0_isLatin1_aae02 17 = .ok (.iconst 0, 1) := by decide +kernel
theorem dJ0_isLatin1_aae02_18 : decode cJ0_isLatin1_aae02 18 = .ok (.ireturn, 1) := by decide +kernel
theorem dJ0_checkIndex_df160_0 : decode cJ0_checkIndex_df160 0 = .ok (.iload_n 0, 1) := by decide +kernel
theorem dJ0_checkIndex_df160_1 : decode cJ0_checkIndex_df160 1 = .ok (.iload_n 1, 1) := by decide +kernel
theorem dJ0_checkIndex_df160_2 : decode cJ0_checkIndex_df160 2 = .ok (.getstatic 1053, 3) := by decide +kernel
theorem dJ0_checkIndex_df160_5 : decode cJ0_checkIndex_df160 5 = .ok (.invokestatic 1059, 3) := by decide +kernel
theorem dJ0_checkIndex_df160_8 : decode cJ0_checkIndex_df160 8 = .ok (.pop, 1) := by decide +kernel
theorem dJ0_checkIndex_df160_9 : decode cJ0_checkIndex_df160 9 = .ok (.return_, 1) := by decide +kernel
theorem dJ0_checkBoundsBeginEnd_23922_0 : decode cJ0_checkBoundsBeginEnd_23922 0 = .ok (.iload_n 0, 1) := by decide +kernel
theorem dJ0_checkBoundsBeginEnd_23922_1 : decode cJ0_checkBoundsBeginEnd_23922 1 = .ok (.iload_n 1, 1) := by decide +kernel
theorem dJ0_checkBoundsBeginEnd_23922_2 : decode cJ0_checkBoundsBeginEnd_23922 2 = .ok (.iload_n 2, 1) := by decide +kernel
theorem dJ0_checkBoundsBeginEnd_23922_3 : decode cJ0_checkBoundsBeginEnd_23922 3 = .ok (.getstatic 1053, 3) := by decide +kernel
theorem dJ0_checkBoundsBeginEnd_23922_6 : decode cJ0_checkBoundsBeginEnd_23922 6 = .ok (.invokestatic 1062, 3) := by decide +kernel
theorem dJ0_checkBoundsBeginEnd_23922_9 : decode cJ0_checkBoundsBeginEnd_23922 9 = .ok (.pop, 1) := by decide +kernel
theorem dJ0_checkBoundsBeginEnd_23922_10 : decode cJ0_checkBoundsBeginEnd_23922 10 = .ok (.return_, 1) := by decide +kernel
theorem dJ1_charAt_3b067_0 : decode cJ1_charAt_3b067 0 = .ok (.iload_n 1, 1) := by decide +kernel
theorem dJ1_charAt_3b067_1 : decode cJ1_charAt_3b067 1 = .ok (.aload_n 0, 1) := by decide +kernel
theorem dJ1_charAt_3b067_2 : decode cJ1_charAt_3b067 2 = .ok (.arraylength, 1) := by decide +kernel
theorem dJ1_charAt_3b067_3 : decode cJ1_charAt_3b067 3 = .ok (.invokestatic 9, 3) := by decide +kernel
theorem dJ1_charAt_3b067_6 : decode cJ1_charAt_3b067 6 = .ok (.aload_n 0, 1) := by decide +kernel
theorem dJ1_charAt_3b067_7 : decode cJ1_charAt_3b067 7 = .ok (.iload_n 1, 1) := by decide +kernel
theorem dJ1_charAt_3b067_8 : decode cJ1_charAt_3b067 8 = .ok (.baload, 1) := by decide +kernel
theorem dJ1_charAt_3b067_9 : decode cJ1_charAt_3b067 9 = .ok (.sipush 255, 3) := by decide +kernel
theorem dJ1_charAt_3b067_12 : decode cJ1_charAt_3b067 12 = .ok (.iand, 1) := by decide +kernel
theorem dJ1_charAt_3b067_13 : decode cJ1_charAt_3b067 13 = .ok (.i2c, 1) := by decide +kernel
theorem dJ1_charAt_3b067_14 : decode cJ1_charAt_3b067 14 = .ok (.ireturn, 1) := by decide +kernel
theorem dJ1_canEncode_9a6ad_0 : decode cJ1_canEncode_9a6ad 0 = .ok (.iload_n 0, 1) := by decide +kernel
theorem dJ1_canEncode_9a6ad_1 : decode cJ1_canEncode_9a6ad 1 = .ok (.ifCond .lt 14, 3) := by decide +kernel
theorem dJ1_canEncode_9a6ad_4 : decode cJ1_canEncode_9a6ad 4 = .ok (.iload_n 0, 1) := by decide +kernel
theorem dJ1_canEncode_9a6ad_5 : decode cJ1_canEncode_9a6ad 5 = .ok (.sipush 255, 3) := by decide +kernel
theorem dJ1_canEncode_9a6ad_8 : decode cJ1_canEncode_9a6ad 8 = .ok (.if_icmp .gt 7, 3) := by decide +kernel
theorem dJ1_canEncode_9a6ad_11 : decode cJ1_canEncode_9a6ad 11 = .ok (.iconst 1, 1) := by decide +kernel
theorem dJ1_canEncode_9a6ad_12 : decode cJ1_canEncode_9a6ad 12 = .ok (.goto 4, 3) := by decide +kernel
theorem dJ1_canEncode_9a6ad_15 : decode cJ1_canEncode_9a6ad 15 = .ok (.iconst 0, 1) := by decide +kernel
theorem dJ1_canEncode_9a6ad_16 : decode cJ1_canEncode_9a6ad 16 = .ok (.ireturn, 1) := by decide +kernel
theorem dJ1_indexOf_4cfef_0 : decode cJ1_indexOf_4cfef 0 = .ok (.iload_n 1, 1) := by decide +kernel
theorem dJ1_indexOf_4cfef_1 : decode cJ1_indexOf_4cfef 1 = .ok (.invokestatic 88, 3) := by decide +kernel
theorem dJ1_indexOf_4cfef_4 : decode cJ1_indexOf_4cfef 4 = .ok (.ifCond .ne 5, 3) := by decide +kernel
theorem dJ1_indexOf_4cfef_7 : decode cJ1_indexOf_4cfef 7 = .ok (.iconst (-1), 1) := by decide +kernel
theorem dJ1_indexOf_4cfef_8 : decode cJ1_indexOf_4cfef 8 = .ok (.ireturn, 1) := by decide +kernel
theorem dJ1_indexOf_4cfef_9 : decode cJ1_indexOf_4cfef 9 = .ok (.iload_n 2, 1) := by decide +kernel
theorem dJ1_indexOf_4cfef_10 : decode cJ1_indexOf_4cfef 10 = .ok (.iconst 0, 1) := by decide +kernel
theorem dJ1_indexOf_4cfef_11 : decode cJ1_indexOf_4cfef 11 = .ok (.invokestatic 92, 3) := by decide +kernel
theorem dJ1_indexOf_4cfef_14 : decode cJ1_indexOf_4cfef 14 = .ok (.istore_n 2, 1) := by decide +kernel
theorem dJ1_indexOf_4cfef_15 : decode cJ1_indexOf_4cfef 15 = .ok (.iload_n 3, 1) := by decide +kernel
theorem dJ1_indexOf_4cfef_16 : decode cJ1_indexOf_4cfef 16 = .ok (.aload_n 0, 1) := by decide +kernel
theorem dJ1_indexOf_4cfef_17 : decode cJ1_indexOf_4cfef 17 = .ok (.arraylength, 1) := by decide +kernel
theorem dJ1_indexOf_4cfef_18 : decode cJ1_indexOf_4cfef 18 = .ok (.invokestatic 38, 3) := by decide +kernel
theorem dJ1_indexOf_4cfef_21 : decode cJ1_indexOf_4cfef 21 = .ok (.istore_n 3, 1) := by decide +kernel
theorem dJ1_indexOf_4cfef_22 : decode cJ1_indexOf_4cfef 22 = .ok (.iload_n 2, 1) := by decide +kernel
theorem dJ1_indexOf_4cfef_23 : decode cJ1_indexOf_4cfef 23 = .ok (.iload_n 3, 1) := by decide +kernel
theorem dJ1_indexOf_4cfef_24 : decode cJ1_indexOf_4cfef 24 = .ok (.if_icmp .lt 5, 3) := by decide +kernel
theorem dJ1_indexOf_4cfef_27 : decode cJ1_indexOf_4cfef 27 = .ok (.iconst (-1), 1) := by decide +kernel
theorem dJ1_indexOf_4cfef_28 : decode cJ1_indexOf_4cfef 28 = .ok (.ireturn, 1) := by decide +kernel
theorem dJ1_indexOf_4cfef_29 : decode cJ1_indexOf_4cfef 29 = .ok (.aload_n 0, 1) := by decide +kernel
theorem dJ1_indexOf_4cfef_30 : decode cJ1_indexOf_4cfef 30 = .ok (.iload_n 1, 1) := by decide +kernel
theorem dJ1_indexOf_4cfef_31 : decode cJ1_indexOf_4cfef 31 = .ok (.iload_n 2, 1) := by decide +kernel
theorem dJ1_indexOf_4cfef_32 : decode cJ1_indexOf_4cfef 32 = .ok (.iload_n 3, 1) := by decide +kernel
theorem dJ1_indexOf_4cfef_33 : decode cJ1_indexOf_4cfef 33 = .ok (.invokestatic 95, 3) := by decide +kernel
theorem dJ1_indexOf_4cfef_36 : decode cJ1_indexOf_4cfef 36 = .ok (.ireturn, 1) := by decide +kernel
theorem dJ1_indexOfChar_4cfef_0 : decode cJ1_indexOfChar_4cfef 0 = .ok (.iload_n 1, 1) := by decide +kernel
theorem dJ1_indexOfChar_4cfef_1 : decode cJ1_indexOfChar_4cfef 1 = .ok (.i2b, 1) := by decide +kernel
theorem dJ1_indexOfChar_4cfef_2 : decode cJ1_indexOfChar_4cfef 2 = .ok (.istore 4, 2) := by decide +kernel
theorem dJ1_indexOfChar_4cfef_4 : decode cJ1_indexOfChar_4cfef 4 = .ok (.iload_n 2, 1) := by decide +kernel
theorem dJ1_indexOfChar_4cfef_5 : decode cJ1_indexOfChar_4cfef 5 = .ok (.istore 5, 2) := by decide +kernel
theorem dJ1_indexOfChar_4cfef_7 : decode cJ1_indexOfChar_4cfef 7 = .ok (.iload 5, 2) := by decide +kernel
theorem dJ1_indexOfChar_4cfef_9 : decode cJ1_indexOfChar_4cfef 9 = .ok (.iload_n 3, 1) := by decide +kernel
theorem dJ1_indexOfChar_4cfef_10 : decode cJ1_indexOfChar_4cfef 10 = .ok (.if_icmp .ge 21, 3) := by decide +kernel
theorem dJ1_indexOfChar_4cfef_13 : decode cJ1_indexOfChar_4cfef 13 = .ok (.aload_n 0, 1) := by decide +kernel
theorem dJ1_indexOfChar_4cfef_14 : decode cJ1_indexOfChar_4cfef 14 = .ok (.iload 5, 2) := by decide +kernel
theorem dJ1_indexOfChar_4cfef_16 : decode cJ1_indexOfChar_4cfef 16 = .ok (.baload, 1) := by decide +kernel
theorem dJ1_indexOfChar_4cfef_17 : decode cJ1_indexOfChar_4cfef 17 = .ok (.iload 4, 2) := by decide +kernel
theorem dJ1_indexOfChar_4cfef_19 : decode cJ1_indexOfChar_4cfef 19 = .ok (.if_icmp .ne 6, 3) := by decide +kernel
theorem dJ1_indexOfChar_4cfef_22 : decode cJ1_indexOfChar_4cfef 22 = .ok (.iload 5, 2) := by decide +kernel
theorem dJ1_indexOfChar_4cfef_24 : decode cJ1_indexOfChar_4cfef 24 = .ok (.ireturn, 1) := by decide +kernel
theorem dJ1_indexOfChar_4cfef_25 : decode cJ1_indexOfChar_4cfef 25 = .ok (.iinc 5 1, 3) := by decide +kernel
theorem dJ1_indexOfChar_4cfef_28 : decode cJ1_indexOfChar_4cfef 28 = .ok (.goto (-21), 3) := by decide +kernel
theorem dJ1_indexOfChar_4cfef_31 : decode cJ1_indexOfChar_4cfef 31 = .ok (.iconst (-1), 1) := by decide +kernel
theorem dJ1_indexOfChar_4cfef_32 : decode cJ1_indexOfChar_4cfef 32 = .ok (.ireturn, 1) := by decide +kernel
theorem dJ2_getChar_3b067_0 : decode cJ2_getChar_3b067 0 = .ok (.getstatic 44, 3) := by decide +kernel
theorem dJ2_getChar_3b067_3 : decode cJ2_getChar_3b067 3 = .ok (.ifCond .ne 25, 3) := by decide +kernel
theorem dJ2_getChar_3b067_6 : decode cJ2_getChar_3b067 6 = .ok (.iload_n 1, 1) := by decide +kernel
theorem dJ2_getChar_3b067_7 : decode cJ2_getChar_3b067 7 = .ok (.ifCond .lt 11, 3) := by decide +kernel
theorem dJ2_getChar_3b067_10 : decode cJ2_getChar_3b067 10 = .ok (.iload_n 1, 1) := by decide +kernel
theorem dJ2_getChar_3b067_11 : decode cJ2_getChar_3b067 11 = .ok (.aload_n 0, 1) := by decide +kernel
theorem dJ2_getChar_3b067_12 : decode cJ2_getChar_3b067 12 = .ok (.invokestatic 48, 3) := by decide +kernel
theorem dJ2_getChar_3b067_15 : decode cJ2_getChar_3b067 15 = .ok (.if_icmp .lt 13, 3) := by decide +kernel
theorem dJ2_getChar_3b067_18 : decode cJ2_getChar_3b067 18 = .ok (.new 52, 3) := by decide +kernel
theorem dJ2_getChar_3b067_21 : decode cJ2_getChar_3b067 21 = .ok (.dup, 1) := by decide +kernel
theorem dJ2_getChar_3b067_22 : decode cJ2_getChar_3b067 22 = .ok (.ldc 54, 2) := by decide +kernel
theorem dJ2_getChar_3b067_24 : decode cJ2_getChar_3b067 24 = .ok (.invokespecial 56, 3) := by decide +kernel
theorem dJ2_getChar_3b067_27 : decode cJ2_getChar_3b067 27 = .ok (.athrow, 1) := by decide +kernel
theorem dJ2_getChar_3b067_28 : decode cJ2_getChar_3b067 28 = .ok (.iload_n 1, 1) := by decide +kernel
theorem dJ2_getChar_3b067_29 : decode cJ2_getChar_3b067 29 = .ok (.iconst 1, 1) := by decide +kernel
theorem dJ2_getChar_3b067_30 : decode cJ2_getChar_3b067 30 = .ok (.ishl, 1) := by decide +kernel
theorem dJ2_getChar_3b067_31 : decode cJ2_getChar_3b067 31 = .ok (.istore_n 1, 1) := by decide +kernel
theorem dJ2_getChar_3b067_32 : decode cJ2_getChar_3b067 32 = .ok (.aload_n 0, 1) := by decide +kernel
theorem dJ2_getChar_3b067_33 : decode cJ2_getChar_3b067 33 = .ok (.iload_n 1, 1) := by decide +kernel
theorem dJ2_getChar_3b067_34 : decode cJ2_getChar_3b067 34 = .ok (.iinc 1 1, 3) := by decide +kernel
theorem dJ2_getChar_3b067_37 : decode cJ2_getChar_3b067 37 = .ok (.baload, 1) := by decide +kernel
theorem dJ2_getChar_3b067_38 : decode cJ2_getChar_3b067 38 = .ok (.sipush 255, 3) := by decide +kernel
theorem dJ2_getChar_3b067_41 : decode cJ2_getChar_3b067 41 = .ok (.iand, 1) := by decide +kernel
theorem dJ2_getChar_3b067_42 : decode cJ2_getChar_3b067 42 = .ok (.getstatic 59, 3) := by decide +kernel
theorem dJ2_getChar_3b067_45 : decode cJ2_getChar_3b067 45 = .ok (.ishl, 1) := by decide +kernel
theorem dJ2_getChar_3b067_46 : decode cJ2_getChar_3b067 46 = .ok (.aload_n 0, 1) := by decide +kernel
theorem dJ2_getChar_3b067_47 : decode cJ2_getChar_3b067 47 = .ok (.iload_n 1, 1) := by decide +kernel
theorem dJ2_getChar_3b067_48 : decode cJ2_getChar_3b067 48 = .ok (.baload, 1) := by decide +kernel
theorem dJ2_getChar_3b067_49 : decode cJ2_getChar_3b067 49 = .ok (.sipush 255, 3) := by decide +kernel
theorem dJ2_getChar_3b067_52 : decode cJ2_getChar_3b067 52 = .ok (.iand, 1) := by decide +kernel
theorem dJ2_getChar_3b067_53 : decode cJ2_getChar_3b067 53 = .ok (.getstatic 63, 3) := by decide +kernel
theorem dJ2_getChar_3b067_56 : decode cJ2_getChar_3b067 56 = .ok (.ishl, 1) := by decide +kernel
theorem dJ2_getChar_3b067_57 : decode cJ2_getChar_3b067 57 = .ok (.ior, 1) := by decide +kernel
theorem dJ2_getChar_3b067_58 : decode cJ2_getChar_3b067 58 = .ok (.i2c, 1) := by decide +kernel
theorem dJ2_getChar_3b067_59 : decode cJ2_getChar_3b067 59 = .ok (.ireturn, 1) := by decide +kernel
theorem dJ2_length_9d52b_0 : decode cJ2_length_9d52b 0 = .ok (.aload_n 0, 1) := by decide +kernel
theorem dJ2_length_9d52b_1 : decode cJ2_length_9d52b 1 = .ok (.arraylength, 1) := by decide +kernel
theorem dJ2_length_9d52b_2 : decode cJ2_length_9d52b 2 = .ok (.iconst 1, 1) := by decide +kernel
theorem dJ2_length_9d52b_3 : decode cJ2_length_9d52b 3 = .ok (.ishr, 1) := by decide +kernel
theorem dJ2_length_9d52b_4 : decode cJ2_length_9d52b 4 = .ok (.ireturn, 1) := by decide +kernel
theorem dJ2_indexOf_4cfef_0 : decode cJ2_indexOf_4cfef 0 = .ok (.iload_n 2, 1) := by decide +kernel
theorem dJ2_indexOf_4cfef_1 : decode cJ2_indexOf_4cfef 1 = .ok (.iconst 0, 1) := by decide +kernel
theorem dJ2_indexOf_4cfef_2 : decode cJ2_indexOf_4cfef 2 = .ok (.invokestatic 224, 3) := by decide +kernel
theorem dJ2_indexOf_4cfef_5 : decode cJ2_indexOf_4cfef 5 = .ok (.istore_n 2, 1) := by decide +kernel
theorem dJ2_indexOf_4cfef_6 : decode cJ2_indexOf_4cfef 6 = .ok (.iload_n 3, 1) := by decide +kernel
theorem dJ2_indexOf_4cfef_7 : decode cJ2_indexOf_4cfef 7 = .ok (.aload_n 0, 1) := by decide +kernel
theorem dJ2_indexOf_4cfef_8 : decode cJ2_indexOf_4cfef 8 = .ok (.arraylength, 1) := by decide +kernel
theorem dJ2_indexOf_4cfef_9 : decode cJ2_indexOf_4cfef 9 = .ok (.iconst 1, 1) := by decide +kernel
theorem dJ2_indexOf_4cfef_10 : decode cJ2_indexOf_4cfef 10 = .ok (.ishr, 1) := by decide +kernel
theorem dJ2_indexOf_4cfef_11 : decode cJ2_indexOf_4cfef 11 = .ok (.invokestatic 183, 3) := by decide +kernel
theorem dJ2_indexOf_4cfef_14 : decode cJ2_indexOf_4cfef 14 = .ok (.istore_n 3, 1) := by decide +kernel
theorem dJ2_indexOf_4cfef_15 : decode cJ2_indexOf_4cfef 15 = .ok (.iload_n 2, 1) := by decide +kernel
theorem dJ2_indexOf_4cfef_16 : decode cJ2_indexOf_4cfef 16 = .ok (.iload_n 3, 1) := by decide +kernel
theorem dJ2_indexOf_4cfef_17 : decode cJ2_indexOf_4cfef 17 = .ok (.if_icmp .lt 5, 3) := by decide +kernel
theorem dJ2_indexOf_4cfef_20 : decode cJ2_indexOf_4cfef 20 = .ok (.iconst (-1), 1) := by decide +kernel
theorem dJ2_indexOf_4cfef_21 : decode cJ2_indexOf_4cfef 21 = .ok (.ireturn, 1) := by decide +kernel
theorem dJ2_indexOf_4cfef_22 : decode cJ2_indexOf_4cfef 22 = .ok (.iload_n 1, 1) := by decide +kernel
theorem dJ2_indexOf_4cfef_23 : decode cJ2_indexOf_4cfef 23 = .ok (.ldc 227, 2) := by decide +kernel
theorem dJ2_indexOf_4cfef_25 : decode cJ2_indexOf_4cfef 25 = .ok (.if_icmp .ge 11, 3) := by decide +kernel
theorem dJ2_indexOf_4cfef_28 : decode cJ2_indexOf_4cfef 28 = .ok (.aload_n 0, 1) := by decide +kernel
theorem dJ2_indexOf_4cfef_29 : decode cJ2_indexOf_4cfef 29 = .ok (.iload_n 1, 1) := by decide +kernel
theorem dJ2_indexOf_4cfef_30 : decode cJ2_indexOf_4cfef 30 = .ok (.iload_n 2, 1) := by decide +kernel
theorem dJ2_indexOf_4cfef_31 : decode cJ2_indexOf_4cfef 31 = .ok (.iload_n 3, 1) := by decide +kernel
theorem dJ2_indexOf_4cfef_32 : decode cJ2_indexOf_4cfef 32 = .ok (.invokestatic 228, 3) := by decide +kernel
theorem dJ2_indexOf_4cfef_35 : decode cJ2_indexOf_4cfef 35 = .ok (.ireturn, 1) := by decide +kernel
theorem dJ2_indexOf_4cfef_36 : decode cJ2_indexOf_4cfef 36 = .ok (.aload_n 0, 1) := by decide +kernel
theorem dJ2_indexOf_4cfef_37 : decode cJ2_indexOf_4cfef 37 = .ok (.iload_n 1, 1) := by decide +kernel
theorem dJ2_indexOf_4cfef_38 : decode cJ2_indexOf_4cfef 38 = .ok (.iload_n 2, 1) := by decide +kernel
theorem dJ2_indexOf_4cfef_39 : decode cJ2_indexOf_4cfef 39 = .ok (.iload_n 3, 1) := by decide +kernel
theorem dJ2_indexOf_4cfef_40 : decode cJ2_indexOf_4cfef 40 = .ok (.invokestatic 232, 3) := by decide +kernel
theorem dJ2_indexOf_4cfef_43 : decode cJ2_indexOf_4cfef 43 = .ok (.ireturn, 1) := by decide +kernel
theorem dJ2_indexOfChar_4cfef_0 : decode cJ2_indexOfChar_4cfef 0 = .ok (.iload_n 2, 1) := by decide +kernel
theorem dJ2_indexOfChar_4cfef_1 : decode cJ2_indexOfChar_4cfef 1 = .ok (.iload_n 3, 1) := by decide +kernel
theorem dJ2_indexOfChar_4cfef_2 : decode cJ2_indexOfChar_4cfef 2 = .ok (.aload_n 0, 1) := by decide +kernel
theorem dJ2_indexOfChar_4cfef_3 : decode cJ2_indexOfChar_4cfef 3 = .ok (.invokestatic 96, 3) := by decide +kernel
theorem dJ2_indexOfChar_4cfef_6 : decode cJ2_indexOfChar_4cfef 6 = .ok (.aload_n 0, 1) := by decide +kernel
theorem dJ2_indexOfChar_4cfef_7 : decode cJ2_indexOfChar_4cfef 7 = .ok (.iload_n 1, 1) := by decide +kernel
theorem dJ2_indexOfChar_4cfef_8 : decode cJ2_indexOfChar_4cfef 8 = .ok (.iload_n 2, 1) := by decide +kernel
theorem dJ2_indexOfChar_4cfef_9 : decode cJ2_indexOfChar_4cfef 9 = .ok (.iload_n 3, 1) := by decide +kernel
theorem dJ2_indexOfChar_4cfef_10 : decode cJ2_indexOfChar_4cfef 10 = .ok (.invokestatic 244, 3) := by decide +kernel
theorem dJ2_indexOfChar_4cfef_13 : decode cJ2_indexOfChar_4cfef 13 = .ok (.ireturn, 1) := by decide +kernel
theorem dJ2_indexOfCharUnsafe_4cfef_0 : decode cJ2_indexOfCharUnsafe_4cfef 0 = .ok (.iload_n 2, 1) := by decide +kernel
theorem dJ2_indexOfCharUnsafe_4cfef_1 : decode cJ2_indexOfCharUnsafe_4cfef 1 = .ok (.istore 4, 2) := by decide +kernel
theorem dJ2_indexOfCharUnsafe_4cfef_3 : decode cJ2_indexOfCharUnsafe_4cfef 3 = .ok (.iload 4, 2) := by decide +kernel
theorem dJ2_indexOfCharUnsafe_4cfef_5 : decode cJ2_indexOfCharUnsafe_4cfef 5 = .ok (.iload_n 3, 1) := by decide +kernel
theorem dJ2_indexOfCharUnsafe_4cfef_6 : decode cJ2_indexOfCharUnsafe_4cfef 6 = .ok (.if_icmp .ge 22, 3) := by decide +kernel
theorem dJ2_indexOfCharUnsafe_4cfef_9 : decode cJ2_indexOfCharUnsafe_4cfef 9 = .ok (.aload_n 0, 1) := by decide +kernel
theorem dJ2_indexOfCharUnsafe_4cfef_10 : decode cJ2_indexOfCharUnsafe_4cfef 10 = .ok (.iload 4, 2) := by decide +kernel
theorem dJ2_indexOfCharUnsafe_4cfef_12 : decode cJ2_indexOfCharUnsafe_4cfef 12 = .ok (.invokestatic 71, 3) := by decide +kernel
theorem dJ2_indexOfCharUnsafe_4cfef_15 : decode cJ2_indexOfCharUnsafe_4cfef 15 = .ok (.iload_n 1, 1) := by decide +kernel
theorem dJ2_indexOfCharUnsafe_4cfef_16 : decode cJ2_indexOfCharUnsafe_4cfef 16 = .ok (.if_icmp .ne 6, 3) := by decide +kernel
theorem dJ2_indexOfCharUnsafe_4cfef_19 : decode cJ2_indexOfCharUnsafe_4cfef 19 = .ok (.iload 4, 2) := by decide +kernel
theorem dJ2_indexOfCharUnsafe_4cfef_21 : decode cJ2_indexOfCharUnsafe_4cfef 21 = .ok (.ireturn, 1) := by decide +kernel
theorem dJ2_indexOfCharUnsafe_4cfef_22 : decode cJ2_indexOfCharUnsafe_4cfef 22 = .ok (.iinc 4 1, 3) := by decide +kernel
theorem dJ2_indexOfCharUnsafe_4cfef_25 : decode cJ2_indexOfCharUnsafe_4cfef 25 = .ok (.goto (-22), 3) := by decide +kernel
theorem dJ2_indexOfCharUnsafe_4cfef_28 : decode cJ2_indexOfCharUnsafe_4cfef 28 = .ok (.iconst (-1), 1) := by decide +kernel
theorem dJ2_indexOfCharUnsafe_4cfef_29 : decode cJ2_indexOfCharUnsafe_4cfef 29 = .ok (.ireturn, 1) := by decide +kernel
theorem dJ2_indexOfSupplementary_4cfef_0 : decode cJ2_indexOfSupplementary_4cfef 0 = .ok (.iload_n 1, 1) := by decide +kernel
theorem dJ2_indexOfSupplementary_4cfef_1 : decode cJ2_indexOfSupplementary_4cfef 1 = .ok (.invokestatic 164, 3) := by decide +kernel
theorem dJ2_indexOfSupplementary_4cfef_4 : decode cJ2_indexOfSupplementary_4cfef 4 = .ok (.ifCond .eq 65, 3) := by decide +kernel
theorem dJ2_indexOfSupplementary_4cfef_7 : decode cJ2_indexOfSupplementary_4cfef 7 = .ok (.iload_n 1, 1) := by decide +kernel
theorem dJ2_indexOfSupplementary_4cfef_8 : decode cJ2_indexOfSupplementary_4cfef 8 = .ok (.invokestatic 157, 3) := by decide +kernel
theorem dJ2_indexOfSupplementary_4cfef_11 : decode cJ2_indexOfSupplementary_4cfef 11 = .ok (.istore 4, 2) := by decide +kernel
theorem dJ2_indexOfSupplementary_4cfef_13 : decode cJ2_indexOfSupplementary_4cfef 13 = .ok (.iload_n 1, 1) := by decide +kernel
theorem dJ2_indexOfSupplementary_4cfef_14 : decode cJ2_indexOfSupplementary_4cfef 14 = .ok (.invokestatic 161, 3) := by decide +kernel
theorem dJ2_indexOfSupplementary_4cfef_17 : decode cJ2_indexOfSupplementary_4cfef 17 = .ok (.istore 5, 2) := by decide +kernel
theorem dJ2_indexOfSupplementary_4cfef_19 : decode cJ2_indexOfSupplementary_4cfef 19 = .ok (.iload_n 2, 1) := by decide +kernel
theorem dJ2_indexOfSupplementary_4cfef_20 : decode cJ2_indexOfSupplementary_4cfef 20 = .ok (.iload_n 3, 1) := by decide +kernel
theorem dJ2_indexOfSupplementary_4cfef_21 : decode cJ2_indexOfSupplementary_4cfef 21 = .ok (.aload_n 0, 1) := by decide +kernel
theorem dJ2_indexOfSupplementary_4cfef_22 : decode cJ2_indexOfSupplementary_4cfef 22 = .ok (.invokestatic 96, 3) := by decide +kernel
theorem dJ2_indexOfSupplementary_4cfef_25 : decode cJ2_indexOfSupplementary_4cfef 25 = .ok (.iload_n 2, 1) := by decide +kernel
theorem dJ2_indexOfSupplementary_4cfef_26 : decode cJ2_indexOfSupplementary_4cfef 26 = .ok (.istore 6, 2) := by decide +kernel
theorem dJ2_indexOfSupplementary_4cfef_28 : decode cJ2_indexOfSupplementary_4cfef 28 = .ok (.iload 6, 2) := by decide +kernel
theorem dJ2_indexOfSupplementary_4cfef_30 : decode cJ2_indexOfSupplementary_4cfef 30 = .ok (.iload_n 3, 1) := by decide +kernel
theorem dJ2_indexOfSupplementary_4cfef_31 : decode cJ2_indexOfSupplementary_4cfef 31 = .ok (.iconst 1, 1) := by decide +kernel
theorem dJ2_indexOfSupplementary_4cfef_32 : decode cJ2_indexOfSupplementary_4cfef 32 = .ok (.isub, 1) := by decide +kernel
theorem dJ2_indexOfSupplementary_4cfef_33 : decode cJ2_indexOfSupplementary_4cfef 33 = .ok (.if_icmp .ge 36, 3) := by decide +kernel
theorem dJ2_indexOfSupplementary_4cfef_36 : decode cJ2_indexOfSupplementary_4cfef 36 = .ok (.aload_n 0, 1) := by decide +kernel
theorem dJ2_indexOfSupplementary_4cfef_37 : decode cJ2_indexOfSupplementary_4cfef 37 = .ok (.iload 6, 2) := by decide +kernel
theorem dJ2_indexOfSupplementary_4cfef_39 : decode cJ2_indexOfSupplementary_4cfef 39 = .ok (.invokestatic 71, 3) := by decide +kernel
theorem dJ2_indexOfSupplementary_4cfef_42 : decode cJ2_indexOfSupplementary_4cfef 42 = .ok (.iload 4, 2) := by decide +kernel
theorem dJ2_indexOfSupplementary_4cfef_44 : decode cJ2_indexOfSupplementary_4cfef 44 = .ok (.if_icmp .ne 19, 3) := by decide +kernel
theorem dJ2_indexOfSupplementary_4cfef_47 : decode cJ2_indexOfSupplementary_4cfef 47 = .ok (.aload_n 0, 1) := by decide +kernel
theorem dJ2_indexOfSupplementary_4cfef_48 : decode cJ2_indexOfSupplementary_4cfef 48 = .ok (.iload 6, 2) := by decide +kernel
theorem dJ2_indexOfSupplementary_4cfef_50 : decode cJ2_indexOfSupplementary_4cfef 50 = .ok (.iconst 1, 1) := by decide +kernel
theorem dJ2_indexOfSupplementary_4cfef_51 : decode cJ2_indexOfSupplementary_4cfef 51 = .ok (.iadd, 1) := by decide +kernel
theorem dJ2_indexOfSupplementary_4cfef_52 : decode cJ2_indexOfSupplementary_4cfef 52 = .ok (.invokestatic 71, 3) := by decide +kernel
theorem dJ2_indexOfSupplementary_4cfef_55 : decode cJ2_indexOfSupplementary_4cfef 55 = .ok (.iload 5, 2) := by decide +kernel
theorem dJ2_indexOfSupplementary_4cfef_57 : decode cJ2_indexOfSupplementary_4cfef 57 = .ok (.if_icmp .ne 6, 3) := by decide +kernel
theorem dJ2_indexOfSupplementary_4cfef_60 : decode cJ2_indexOfSupplementary_4cfef 60 = .ok (.iload 6, 2) := by decide +kernel
theorem dJ2_indexOfSupplementary_4cfef_62 : decode cJ2_indexOfSupplementary_4cfef 62 = .ok (.ireturn, 1) := by decide +kernel
theorem dJ2_indexOfSupplementary_4cfef_63 : decode cJ2_indexOfSupplementary_4cfef 63 = .ok (.iinc 6 1, 3) := by decide +kernel
theorem dJ2_indexOfSupplementary_4cfef_66 : decode cJ2_indexOfSupplementary_4cfef 66 = .ok (.goto (-38), 3) := by decide +kernel
theorem dJ2_indexOfSupplementary_4cfef_69 : decode cJ2_indexOfSupplementary_4cfef 69 = .ok (.iconst (-1), 1) := by decide +kernel
theorem dJ2_indexOfSupplementary_4cfef_70 : decode cJ2_indexOfSupplementary_4cfef 70 = .ok (.ireturn, 1) := by decide +kernel
theorem dJ2_charAt_3b067_0 : decode cJ2_charAt_3b067 0 = .ok (.iload_n 1, 1) := by decide +kernel
theorem dJ2_charAt_3b067_1 : decode cJ2_charAt_3b067 1 = .ok (.aload_n 0, 1) := by decide +kernel
theorem dJ2_charAt_3b067_2 : decode cJ2_charAt_3b067 2 = .ok (.invokestatic 67, 3) := by decide +kernel
theorem dJ2_charAt_3b067_5 : decode cJ2_charAt_3b067 5 = .ok (.aload_n 0, 1) := by decide +kernel
theorem dJ2_charAt_3b067_6 : decode cJ2_charAt_3b067 6 = .ok (.iload_n 1, 1) := by decide +kernel
theorem dJ2_charAt_3b067_7 : decode cJ2_charAt_3b067 7 = .ok (.invokestatic 71, 3) := by decide +kernel
theorem dJ2_charAt_3b067_10 : decode cJ2_charAt_3b067 10 = .ok (.ireturn, 1) := by decide +kernel
theorem dJ2_checkIndex_2214a_0 : decode cJ2_checkIndex_2214a 0 = .ok (.iload_n 0, 1) := by decide +kernel
theorem dJ2_checkIndex_2214a_1 : decode cJ2_checkIndex_2214a 1 = .ok (.aload_n 1, 1) := by decide +kernel
theorem dJ2_checkIndex_2214a_2 : decode cJ2_checkIndex_2214a 2 = .ok (.invokestatic 48, 3) := by decide +kernel
theorem dJ2_checkIndex_2214a_5 : decode cJ2_checkIndex_2214a 5 = .ok (.invokestatic 414, 3) := by decide +kernel
theorem dJ2_checkIndex_2214a_8 : decode cJ2_checkIndex_2214a 8 = .ok (.return_, 1) := by decide +kernel
theorem dJ2_checkBoundsBeginEnd_d044e_0 : decode cJ2_checkBoundsBeginEnd_d044e 0 = .ok (.iload_n 0, 1) := by decide +kernel
theorem dJ2_checkBoundsBeginEnd_d044e_1 : decode cJ2_checkBoundsBeginEnd_d044e 1 = .ok (.iload_n 1, 1) := by decide +kernel
theorem dJ2_checkBoundsBeginEnd_d044e_2 : decode cJ2_checkBoundsBeginEnd_d044e 2 = .ok (.aload_n 2, 1) := by decide +kernel
theorem dJ2_checkBoundsBeginEnd_d044e_3 : decode cJ2_checkBoundsBeginEnd_d044e 3 = .ok (.invokestatic 48, 3) := by decide +kernel
theorem dJ2_checkBoundsBeginEnd_d044e_6 : decode cJ2_checkBoundsBeginEnd_d044e 6 = .ok (.invokestatic 241, 3) := by decide +kernel
theorem dJ2_checkBoundsBeginEnd_d044e_9 : decode cJ2_checkBoundsBeginEnd_d044e 9 = .ok (.return_, 1) := by decide +kernel
theorem dJ3_checkIndex_8e157_0 : decode cJ3_checkIndex_8e157 0 = .ok (.iload_n 0, 1) := by decide +kernel
theorem dJ3_checkIndex_8e157_1 : decode cJ3_checkIndex_8e157 1 = .ok (.ifCond .lt 8, 3) := by decide +kernel
theorem dJ3_checkIndex_8e157_4 : decode cJ3_checkIndex_8e157 4 = .ok (.iload_n 0, 1) := by decide +kernel
theorem dJ3_checkIndex_8e157_5 : decode cJ3_checkIndex_8e157 5 = .ok (.iload_n 1, 1) := by decide +kernel
theorem dJ3_checkIndex_8e157_6 : decode cJ3_checkIndex_8e157 6 = .ok (.if_icmp .lt 10, 3) := by decide +kernel
theorem dJ3_checkIndex_8e157_9 : decode cJ3_checkIndex_8e157 9 = .ok (.aload_n 2, 1) := by decide +kernel
theorem dJ3_checkIndex_8e157_10 : decode cJ3_checkIndex_8e157 10 = .ok (.iload_n 0, 1) := by decide +kernel
theorem dJ3_checkIndex_8e157_11 : decode cJ3_checkIndex_8e157 11 = .ok (.iload_n 1, 1) := by decide +kernel
theorem dJ3_checkIndex_8e157_12 : decode cJ3_checkIndex_8e157 12 = .ok (.invokestatic 95, 3) := by decide +kernel
theorem dJ3_checkIndex_8e157_15 : decode cJ3_checkIndex_8e157 15 = .ok (.athrow, 1) := by decide +kernel
theorem dJ3_checkIndex_8e157_16 : decode cJ3_checkIndex_8e157 16 = .ok (.iload_n 0, 1) := by decide +kernel
theorem dJ3_checkIndex_8e157_17 : decode cJ3_checkIndex_8e157 17 = .ok (.ireturn, 1) := by decide +kernel
theorem dJ3_checkFromToIndex_8c36e_0 : decode cJ3_checkFromToIndex_8c36e 0 = .ok (.iload_n 0, 1) := by decide +kernel
theorem dJ3_checkFromToIndex_8c36e_1 : decode cJ3_checkFromToIndex_8c36e 1 = .ok (.ifCond .lt 13, 3) := by decide +kernel
theorem dJ3_checkFromToIndex_8c36e_4 : decode cJ3_checkFromToIndex_8c36e 4 = .ok (.iload_n 0, 1) := by decide +kernel
theorem dJ3_checkFromToIndex_8c36e_5 : decode cJ3_checkFromToIndex_8c36e 5 = .ok (.iload_n 1, 1) := by decide +kernel
theorem dJ3_checkFromToIndex_8c36e_6 : decode cJ3_checkFromToIndex_8c36e 6 = .ok (.if_icmp .gt 8, 3) := by decide +kernel
theorem dJ3_checkFromToIndex_8c36e_9 : decode cJ3_checkFromToIndex_8c36e 9 = .ok (.iload_n 1, 1) := by decide +kernel
theorem dJ3_checkFromToIndex_8c36e_10 : decode cJ3_checkFromToIndex_8c36e 10 = .ok (.iload_n 2, 1) := by decide +kernel
theorem dJ3_checkFromToIndex_8c36e_11 : decode cJ3_checkFromToIndex_8c36e 11 = .ok (.if_icmp .le 11, 3) := by decide +kernel
theorem dJ3_checkFromToIndex_8c36e_14 : decode cJ3_checkFromToIndex_8c36e 14 = .ok (.aload_n 3, 1) := by decide +kernel
theorem dJ3_checkFromToIndex_8c36e_15 : decode cJ3_checkFromToIndex_8c36e 15 = .ok (.iload_n 0, 1) := by decide +kernel
theorem dJ3_checkFromToIndex_8c36e_16 : decode cJ3_checkFromToIndex_8c36e 16 = .ok (.iload_n 1, 1) := by decide +kernel
theorem dJ3_checkFromToIndex_8c36e_17 : decode cJ3_checkFromToIndex_8c36e 17 = .ok (.iload_n 2, 1) := by decide +kernel
theorem dJ3_checkFromToIndex_8c36e_18 : decode cJ3_checkFromToIndex_8c36e 18 = .ok (.invokestatic 99, 3) := by decide +kernel
theorem dJ3_checkFromToIndex_8c36e_21 : decode cJ3_checkFromToIndex_8c36e 21 = .ok (.athrow, 1) := by decide +kernel
theorem dJ3_checkFromToIndex_8c36e_22 : decode cJ3_checkFromToIndex_8c36e 22 = .ok (.iload_n 0, 1) := by decide +kernel
theorem dJ3_checkFromToIndex_8c36e_23 : decode cJ3_checkFromToIndex_8c36e 23 = .ok (.ireturn, 1) := by decide +kernel
end
section
theorem dX7_init_0 : decode cX7_init 0 = .ok (.aload_n 0, 1) := by decide +kernel
theorem dX7_init_1 : decode cX7_init 1 = .ok (.invokespecial 1, 3) := by decide +kernel
theorem dX7_init_4 : decode cX7_init 4 = .ok (.aload_n 0, 1) := by decide +kernel
theorem dX7_init_5 : decode cX7_init 5 = .ok (.new 7, 3) := by decide +kernel
theorem dX7_init_8 : decode cX7_init 8 = .ok (.dup, 1) := by decide +kernel
theorem dX7_init_9 : decode cX7_init 9 = .ok (.invokespecial 9, 3) := by decide +kernel
theorem dX7_init_12 : decode cX7_init 12 = .ok (.putfield 10, 3) := by decide +kernel
theorem dX7_init_15 : decode cX7_init 15 = .ok (.aload_n 0, 1) := by decide +kernel
theorem dX7_init_16 : decode cX7_init 16 = .ok (.new 16, 3) := by decide +kernel
theorem dX7_init_19 : decode cX7_init 19 = .ok (.dup, 1) := by decide +kernel
theorem dX7_init_20 : decode cX7_init 20 = .ok (.invokespecial 18, 3) := by decide +kernel
theorem dX7_init_23 : decode cX7_init 23 = .ok (.putfield 19, 3) := by decide +kernel
theorem dX7_init_26 : decode cX7_init 26 = .ok (.aload_n 0, 1) := by decide +kernel
theorem dX7_init_27 : decode cX7_init 27 = .ok (.new 23, 3) := by decide +kernel
theorem dX7_init_30 : decode cX7_init 30 = .ok (.dup, 1) := by decide +kernel
theorem dX7_init_31 : decode cX7_init 31 = .ok (.invokespecial 25, 3) := by decide +kernel
theorem dX7_init_34 : decode cX7_init 34 = .ok (.putfield 26, 3) := by decide +kernel
theorem dX7_init_37 : decode cX7_init 37 = .ok (.aload_n 0, 1) := by decide +kernel
theorem dX7_init_38 : decode cX7_init 38 = .ok (.new 23, 3) := by decide +kernel
theorem dX7_init_41 : decode cX7_init 41 = .ok (.dup, 1) := by decide +kernel
theorem dX7_init_42 : decode cX7_init 42 = .ok (.invokespecial 25, 3) := by decide +kernel
theorem dX7_init_45 : decode cX7_init 45 = .ok (.putfield 30, 3) := by decide +kernel
theorem dX7_init_48 : decode cX7_init 48 = .ok (.aload_n 0, 1) := by decide +kernel
theorem dX7_init_49 : decode cX7_init 49 = .ok (.new 23, 3) := by decide +kernel
theorem dX7_init_52 : decode cX7_init 52 = .ok (.dup, 1) := by decide +kernel
theorem dX7_init_53 : decode cX7_init 53 = .ok (.invokespecial 25, 3) := by decide +kernel
theorem dX7_init_56 : decode cX7_init 56 = .ok (.putfield 33, 3) := by decide +kernel
theorem dX7_init_59 : decode cX7_init 59 = .ok (.aload_n 0, 1) := by decide +kernel
theorem dX7_init_60 : decode cX7_init 60 = .ok (.bipush 8, 2) := by decide +kernel
theorem dX7_init_62 : decode cX7_init 62 = .ok (.anewarray 36, 3) := by decide +kernel
theorem dX7_init_65 : decode cX7_init 65 = .ok (.putfield 38, 3) := by decide +kernel
theorem dX7_init_68 : decode cX7_init 68 = .ok (.aload_n 0, 1) := by decide +kernel
theorem dX7_init_69 : decode cX7_init 69 = .ok (.bipush 8, 2) := by decide +kernel
theorem dX7_init_71 : decode cX7_init 71 = .ok (.anewarray 42, 3) := by decide +kernel
theorem dX7_init_74 : decode cX7_init 74 = .ok (.putfield 44, 3) := by decide +kernel
theorem dX7_init_77 : decode cX7_init 77 = .ok (.aload_n 0, 1) := by decide +kernel
theorem dX7_init_78 : decode cX7_init 78 = .ok (.bipush 8, 2) := by decide +kernel
theorem dX7_init_80 : decode cX7_init 80 = .ok (.newarray .int, 2) := by decide +kernel
theorem dX7_init_82 : decode cX7_init 82 = .ok (.putfield 48, 3) := by decide +kernel
theorem dX7_init_85 : decode cX7_init 85 = .ok (.aload_n 0, 1) := by decide +kernel
theorem dX7_init_86 : decode cX7_init 86 = .ok (.bipush 8, 2) := by decide +kernel
theorem dX7_init_88 : decode cX7_init 88 = .ok (.newarray .int, 2) := by decide +kernel
theorem dX7_init_90 : decode cX7_init 90 = .ok (.putfield 52, 3) := by decide +kernel
theorem dX7_init_93 : decode cX7_init 93 = .ok (.aload_n 0, 1) := by decide +kernel
theorem dX7_init_94 : decode cX7_init 94 = .ok (.bipush 22, 2) := by decide +kernel
theorem dX7_init_96 : decode cX7_init 96 = .ok (.newarray .int, 2) := by decide +kernel
theorem dX7_init_98 : decode cX7_init 98 = .ok (.putfield 55, 3) := by decide +kernel
theorem dX7_init_101 : decode cX7_init 101 = .ok (.aload_n 0, 1) := by decide +kernel
theorem dX7_init_102 : decode cX7_init 102 = .ok (.bipush 11, 2) := by decide +kernel
theorem dX7_init_104 : decode cX7_init 104 = .ok (.newarray .int, 2) := by decide +kernel
theorem dX7_init_106 : decode cX7_init 106 = .ok (.putfield 58, 3) := by decide +kernel
theorem dX7_init_109 : decode cX7_init 109 = .ok (.aload_n 0, 1) := by decide +kernel
theorem dX7_init_110 : decode cX7_init 110 = .ok (.lconst 0, 1) := by decide +kernel
theorem dX7_init_111 : decode cX7_init 111 = .ok (.putfield 61, 3) := by decide +kernel
theorem dX7_init_114 : decode cX7_init 114 = .ok (.aload_n 0, 1) := by decide +kernel
theorem dX7_init_115 : decode cX7_init 115 = .ok (.ldc2_w 65, 3) := by decide +kernel
theorem dX7_init_118 : decode cX7_init 118 = .ok (.putfield 67, 3) := by decide +kernel
theorem dX7_init_121 : decode cX7_init 121 = .ok (.aload_n 0, 1) := by decide +kernel
theorem dX7_init_122 : decode cX7_init 122 = .ok (.ldc2_w 65, 3) := by decide +kernel
theorem dX7_init_125 : decode cX7_init 125 = .ok (.putfield 70, 3) := by decide +kernel
theorem dX7_init_128 : decode cX7_init 128 = .ok (.aload_n 0, 1) := by decide +kernel
theorem dX7_init_129 : decode cX7_init 129 = .ok (.ldc2_w 65, 3) := by decide +kernel
theorem dX7_init_132 : decode cX7_init 132 = .ok (.putfield 73, 3) := by decide +kernel
theorem dX7_init_135 : decode cX7_init 135 = .ok (.aload_n 0, 1) := by decide +kernel
theorem dX7_init_136 : decode cX7_init 136 = .ok (.iconst 0, 1) := by decide +kernel
theorem dX7_init_137 : decode cX7_init 137 = .ok (.putfield 76, 3) := by decide +kernel
theorem dX7_init_140 : decode cX7_init 140 = .ok (.aload_n 0, 1) := by decide +kernel
theorem dX7_init_141 : decode cX7_init 141 = .ok (.iconst 0, 1) := by decide +kernel
theorem dX7_init_142 : decode cX7_init 142 = .ok (.putfield 80, 3) := by decide +kernel
theorem dX7_init_145 : decode cX7_init 145 = .ok (.aload_n 0, 1) := by decide +kernel
theorem dX7_init_146 : decode cX7_init 146 = .ok (.iconst 0, 1) := by decide +kernel
theorem dX7_init_147 : decode cX7_init 147 = .ok (.putfield 83, 3) := by decide +kernel
theorem dX7_init_150 : decode cX7_init 150 = .ok (.aload_n 0, 1) := by decide +kernel
theorem dX7_init_151 : decode cX7_init 151 = .ok (.iconst 0, 1) := by decide +kernel
theorem dX7_init_152 : decode cX7_init 152 = .ok (.putfield 86, 3) := by decide +kernel
theorem dX7_init_155 : decode cX7_init 155 = .ok (.iconst 0, 1) := by decide +kernel
theorem dX7_init_156 : decode cX7_init 156 = .ok (.istore_n 1, 1) := by decide +kernel
theorem dX7_init_157 : decode cX7_init 157 = .ok (.iload_n 1, 1) := by decide +kernel
theorem dX7_init_158 : decode cX7_init 158 = .ok (.bipush 8, 2) := by decide +kernel
theorem dX7_init_160 : decode cX7_init 160 = .ok (.if_icmp .ge 22, 3) := by decide +kernel
theorem dX7_init_163 : decode cX7_init 163 = .ok (.aload_n 0, 1) := by decide +kernel
theorem dX7_init_164 : decode cX7_init 164 = .ok (.getfield 38, 3) := by decide +kernel
theorem dX7_init_167 : decode cX7_init 167 = .ok (.iload_n 1, 1) := by decide +kernel
theorem dX7_init_168 : decode cX7_init 168 = .ok (.new 36, 3) := by decide +kernel
theorem dX7_init_171 : decode cX7_init 171 = .ok (.dup, 1) := by decide +kernel
theorem dX7_init_172 : decode cX7_init 172 = .ok (.invokespecial 89, 3) := by decide +kernel
theorem dX7_init_175 : decode cX7_init 175 = .ok (.aastore, 1) := by decide +kernel
theorem dX7_init_176 : decode cX7_init 176 = .ok (.iinc 1 1, 3) := by decide +kernel
theorem dX7_init_179 : decode cX7_init 179 = .ok (.goto (-22), 3) := by decide +kernel
theorem dX7_init_182 : decode cX7_init 182 = .ok (.iconst 0, 1) := by decide +kernel
theorem dX7_init_183 : decode cX7_init 183 = .ok (.istore_n 1, 1) := by decide +kernel
theorem dX7_init_184 : decode cX7_init 184 = .ok (.iload_n 1, 1) := by decide +kernel
theorem dX7_init_185 : decode cX7_init 185 = .ok (.bipush 8, 2) := by decide +kernel
theorem dX7_init_187 : decode cX7_init 187 = .ok (.if_icmp .ge 22, 3) := by decide +kernel
theorem dX7_init_190 : decode cX7_init 190 = .ok (.aload_n 0, 1) := by decide +kernel
theorem dX7_init_191 : decode cX7_init 191 = .ok (.getfield 44, 3) := by decide +kernel
theorem dX7_init_194 : decode cX7_init 194 = .ok (.iload_n 1, 1) := by decide +kernel
theorem dX7_init_195 : decode cX7_init 195 = .ok (.new 42, 3) := by decide +kernel
theorem dX7_init_198 : decode cX7_init 198 = .ok (.dup, 1) := by decide +kernel
theorem dX7_init_199 : decode cX7_init 199 = .ok (.invokespecial 90, 3) := by decide +kernel
theorem dX7_init_202 : decode cX7_init 202 = .ok (.aastore, 1) := by decide +kernel
theorem dX7_init_203 : decode cX7_init 203 = .ok (.iinc 1 1, 3) := by decide +kernel
theorem dX7_init_206 : decode cX7_init 206 = .ok (.goto (-22), 3) := by decide +kernel
theorem dX7_init_209 : decode cX7_init 209 = .ok (.return_, 1) := by decide +kernel
theorem dX7_seed_0 : decode cX7_seed 0 = .ok (.lload_n 1, 1) := by decide +kernel
theorem dX7_seed_1 : decode cX7_seed 1 = .ok (.aload_n 0, 1) := by decide +kernel
theorem dX7_seed_2 : decode cX7_seed 2 = .ok (.getfield 48, 3) := by decide +kernel
theorem dX7_seed_5 : decode cX7_seed 5 = .ok (.iconst 0, 1) := by decide +kernel
theorem dX7_seed_6 : decode cX7_seed 6 = .ok (.invokestatic 91, 3) := by decide +kernel
theorem dX7_seed_9 : decode cX7_seed 9 = .ok (.aload_n 0, 1) := by decide +kernel
theorem dX7_seed_10 : decode cX7_seed 10 = .ok (.iconst 0, 1) := by decide +kernel
theorem dX7_seed_11 : decode cX7_seed 11 = .ok (.putfield 76, 3) := by decide +kernel
theorem dX7_seed_14 : decode cX7_seed 14 = .ok (.return_, 1) := by decide +kernel
theorem dX7_pass_0 : decode cX7_pass 0 = .ok (.lload_n 1, 1) := by decide +kernel
theorem dX7_pass_1 : decode cX7_pass 1 = .ok (.lconst 1, 1) := by decide +kernel
theorem dX7_pass_2 : decode cX7_pass 2 = .ok (.lcmp, 1) := by decide +kernel
theorem dX7_pass_3 : decode cX7_pass 3 = .ok (.ifCond .lt 11, 3) := by decide +kernel
theorem dX7_pass_6 : decode cX7_pass 6 = .ok (.lload_n 1, 1) := by decide +kernel
theorem dX7_pass_7 : decode cX7_pass 7 = .ok (.ldc2_w 95, 3) := by decide +kernel
theorem dX7_pass_10 : decode cX7_pass 10 = .ok (.lcmp, 1) := by decide +kernel
theorem dX7_pass_11 : decode cX7_pass 11 = .ok (.ifCond .le 11, 3) := by decide +kernel
theorem dX7_pass_14 : decode cX7_pass 14 = .ok (.new 97, 3) := by decide +kernel
theorem dX7_pass_17 : decode cX7_pass 17 = .ok (.dup, 1) := by decide +kernel
theorem dX7_pass_18 : decode cX7_pass 18 = .ok (.invokespecial 99, 3) := by decide +kernel
theorem dX7_pass_21 : decode cX7_pass 21 = .ok (.athrow, 1) := by decide +kernel
theorem dX7_pass_22 : decode cX7_pass 22 = .ok (.aload_n 0, 1) := by decide +kernel
theorem dX7_pass_23 : decode cX7_pass 23 = .ok (.dup, 1) := by decide +kernel
theorem dX7_pass_24 : decode cX7_pass 24 = .ok (.getfield 61, 3) := by decide +kernel
theorem dX7_pass_27 : decode cX7_pass 27 = .ok (.lload_n 1, 1) := by decide +kernel
theorem dX7_pass_28 : decode cX7_pass 28 = .ok (.ladd, 1) := by decide +kernel
theorem dX7_pass_29 : decode cX7_pass 29 = .ok (.putfield 61, 3) := by decide +kernel
theorem dX7_pass_32 : decode cX7_pass 32 = .ok (.aload_n 0, 1) := by decide +kernel
theorem dX7_pass_33 : decode cX7_pass 33 = .ok (.getfield 61, 3) := by decide +kernel
theorem dX7_pass_36 : decode cX7_pass 36 = .ok (.lreturn, 1) := by decide +kernel
theorem dX7_limits_0 : decode cX7_limits 0 = .ok (.lload_n 1, 1) := by decide +kernel
theorem dX7_limits_1 : decode cX7_limits 1 = .ok (.invokestatic 100, 3) := by decide +kernel
theorem dX7_limits_4 : decode cX7_limits 4 = .ok (.ifCond .eq 18, 3) := by decide +kernel
theorem dX7_limits_7 : decode cX7_limits 7 = .ok (.lload_n 3, 1) := by decide +kernel
theorem dX7_limits_8 : decode cX7_limits 8 = .ok (.invokestatic 100, 3) := by decide +kernel
theorem dX7_limits_11 : decode cX7_limits 11 = .ok (.ifCond .eq 11, 3) := by decide +kernel
theorem dX7_limits_14 : decode cX7_limits 14 = .ok (.lload 5, 2) := by decide +kernel
theorem dX7_limits_16 : decode cX7_limits 16 = .ok (.invokestatic 100, 3) := by decide +kernel
theorem dX7_limits_19 : decode cX7_limits 19 = .ok (.ifCond .ne 11, 3) := by decide +kernel
theorem dX7_limits_22 : decode cX7_limits 22 = .ok (.new 97, 3) := by decide +kernel
theorem dX7_limits_25 : decode cX7_limits 25 = .ok (.dup, 1) := by decide +kernel
theorem dX7_limits_26 : decode cX7_limits 26 = .ok (.invokespecial 99, 3) := by decide +kernel
theorem dX7_limits_29 : decode cX7_limits 29 = .ok (.athrow, 1) := by decide +kernel
theorem dX7_limits_30 : decode cX7_limits 30 = .ok (.aload_n 0, 1) := by decide +kernel
theorem dX7_limits_31 : decode cX7_limits 31 = .ok (.lload_n 1, 1) := by decide +kernel
theorem dX7_limits_32 : decode cX7_limits 32 = .ok (.putfield 67, 3) := by decide +kernel
theorem dX7_limits_35 : decode cX7_limits 35 = .ok (.aload_n 0, 1) := by decide +kernel
theorem dX7_limits_36 : decode cX7_limits 36 = .ok (.lload_n 3, 1) := by decide +kernel
theorem dX7_limits_37 : decode cX7_limits 37 = .ok (.putfield 70, 3) := by decide +kernel
theorem dX7_limits_40 : decode cX7_limits 40 = .ok (.aload_n 0, 1) := by decide +kernel
theorem dX7_limits_41 : decode cX7_limits 41 = .ok (.lload 5, 2) := by decide +kernel
theorem dX7_limits_43 : decode cX7_limits 43 = .ok (.putfield 73, 3) := by decide +kernel
theorem dX7_limits_46 : decode cX7_limits 46 = .ok (.return_, 1) := by decide +kernel
theorem dX7_change_0 : decode cX7_change 0 = .ok (.aload_n 0, 1) := by decide +kernel
theorem dX7_change_1 : decode cX7_change 1 = .ok (.getfield 19, 3) := by decide +kernel
theorem dX7_change_4 : decode cX7_change 4 = .ok (.aload_n 0, 1) := by decide +kernel
theorem dX7_change_5 : decode cX7_change 5 = .ok (.getfield 61, 3) := by decide +kernel
theorem dX7_change_8 : decode cX7_change 8 = .ok (.invokevirtual 104, 3) := by decide +kernel
theorem dX7_change_11 : decode cX7_change 11 = .ok (.aload_n 0, 1) := by decide +kernel
theorem dX7_change_12 : decode cX7_change 12 = .ok (.getfield 19, 3) := by decide +kernel
theorem dX7_change_15 : decode cX7_change 15 = .ok (.invokevirtual 108, 3) := by decide +kernel
theorem dX7_change_18 : decode cX7_change 18 = .ok (.astore 5, 2) := by decide +kernel
theorem dX7_change_20 : decode cX7_change 20 = .ok (.aload 5, 2) := by decide +kernel
theorem dX7_change_22 : decode cX7_change 22 = .ok (.iload_n 1, 1) := by decide +kernel
theorem dX7_change_23 : decode cX7_change 23 = .ok (.iload_n 2, 1) := by decide +kernel
theorem dX7_change_24 : decode cX7_change 24 = .ok (.iload_n 3, 1) := by decide +kernel
theorem dX7_change_25 : decode cX7_change 25 = .ok (.iload 4, 2) := by decide +kernel
theorem dX7_change_27 : decode cX7_change 27 = .ok (.invokevirtual 112, 3) := by decide +kernel
theorem dX7_change_30 : decode cX7_change 30 = .ok (.aload 5, 2) := by decide +kernel
theorem dX7_change_32 : decode cX7_change 32 = .ok (.getfield 118, 3) := by decide +kernel
theorem dX7_change_35 : decode cX7_change 35 = .ok (.ireturn, 1) := by decide +kernel
theorem dX7_user_0 : decode cX7_user 0 = .ok (.iload_n 1, 1) := by decide +kernel
theorem dX7_user_1 : decode cX7_user 1 = .ok (.invokestatic 121, 3) := by decide +kernel
theorem dX7_user_4 : decode cX7_user 4 = .ok (.ifCond .ne 11, 3) := by decide +kernel
theorem dX7_user_7 : decode cX7_user 7 = .ok (.new 97, 3) := by decide +kernel
theorem dX7_user_10 : decode cX7_user 10 = .ok (.dup, 1) := by decide +kernel
theorem dX7_user_11 : decode cX7_user 11 = .ok (.invokespecial 99, 3) := by decide +kernel
theorem dX7_user_14 : decode cX7_user 14 = .ok (.athrow, 1) := by decide +kernel
theorem dX7_user_15 : decode cX7_user 15 = .ok (.aload_n 0, 1) := by decide +kernel
theorem dX7_user_16 : decode cX7_user 16 = .ok (.getfield 38, 3) := by decide +kernel
theorem dX7_user_19 : decode cX7_user 19 = .ok (.iload_n 1, 1) := by decide +kernel
theorem dX7_user_20 : decode cX7_user 20 = .ok (.aaload, 1) := by decide +kernel
theorem dX7_user_21 : decode cX7_user 21 = .ok (.iload_n 2, 1) := by decide +kernel
theorem dX7_user_22 : decode cX7_user 22 = .ok (.iload_n 3, 1) := by decide +kernel
theorem dX7_user_23 : decode cX7_user 23 = .ok (.invokevirtual 125, 3) := by decide +kernel
theorem dX7_user_26 : decode cX7_user 26 = .ok (.return_, 1) := by decide +kernel
theorem dX7_login_0 : decode cX7_login 0 = .ok (.iload_n 1, 1) := by decide +kernel
theorem dX7_login_1 : decode cX7_login 1 = .ok (.invokestatic 121, 3) := by decide +kernel
theorem dX7_login_4 : decode cX7_login 4 = .ok (.ifCond .ne 11, 3) := by decide +kernel
theorem dX7_login_7 : decode cX7_login 7 = .ok (.new 97, 3) := by decide +kernel
theorem dX7_login_10 : decode cX7_login 10 = .ok (.dup, 1) := by decide +kernel
theorem dX7_login_11 : decode cX7_login 11 = .ok (.invokespecial 99, 3) := by decide +kernel
theorem dX7_login_14 : decode cX7_login 14 = .ok (.athrow, 1) := by decide +kernel
theorem dX7_login_15 : decode cX7_login 15 = .ok (.aload_n 0, 1) := by decide +kernel
theorem dX7_login_16 : decode cX7_login 16 = .ok (.getfield 38, 3) := by decide +kernel
theorem dX7_login_19 : decode cX7_login 19 = .ok (.iload_n 1, 1) := by decide +kernel
theorem dX7_login_20 : decode cX7_login 20 = .ok (.aaload, 1) := by decide +kernel
theorem dX7_login_21 : decode cX7_login 21 = .ok (.iload_n 2, 1) := by decide +kernel
theorem dX7_login_22 : decode cX7_login 22 = .ok (.iload_n 3, 1) := by decide +kernel
theorem dX7_login_23 : decode cX7_login 23 = .ok (.invokevirtual 129, 3) := by decide +kernel
theorem dX7_login_26 : decode cX7_login 26 = .ok (.ifCond .ne 6, 3) := by decide +kernel
theorem dX7_login_29 : decode cX7_login 29 = .ok (.bipush (-9), 2) := by decide +kernel
theorem dX7_login_31 : decode cX7_login 31 = .ok (.ireturn, 1) := by decide +kernel
theorem dX7_login_32 : decode cX7_login 32 = .ok (.aload_n 0, 1) := by decide +kernel
theorem dX7_login_33 : decode cX7_login 33 = .ok (.invokevirtual 133, 3) := by decide +kernel
theorem dX7_login_36 : decode cX7_login 36 = .ok (.aload_n 0, 1) := by decide +kernel
theorem dX7_login_37 : decode cX7_login 37 = .ok (.invokevirtual 136, 3) := by decide +kernel
theorem dX7_login_40 : decode cX7_login 40 = .ok (.istore 4, 2) := by decide +kernel
theorem dX7_login_42 : decode cX7_login 42 = .ok (.iload 4, 2) := by decide +kernel
theorem dX7_login_44 : decode cX7_login 44 = .ok (.iconst (-1), 1) := by decide +kernel
theorem dX7_login_45 : decode cX7_login 45 = .ok (.if_icmp .ne 6, 3) := by decide +kernel
theorem dX7_login_48 : decode cX7_login 48 = .ok (.bipush (-10), 2) := by decide +kernel
theorem dX7_login_50 : decode cX7_login 50 = .ok (.ireturn, 1) := by decide +kernel
theorem dX7_login_51 : decode cX7_login 51 = .ok (.aload_n 0, 1) := by decide +kernel
theorem dX7_login_52 : decode cX7_login 52 = .ok (.getfield 44, 3) := by decide +kernel
theorem dX7_login_55 : decode cX7_login 55 = .ok (.iload 4, 2) := by decide +kernel
theorem dX7_login_57 : decode cX7_login 57 = .ok (.aaload, 1) := by decide +kernel
theorem dX7_login_58 : decode cX7_login 58 = .ok (.iload_n 1, 1) := by decide +kernel
theorem dX7_login_59 : decode cX7_login 59 = .ok (.aload_n 0, 1) := by decide +kernel
theorem dX7_login_60 : decode cX7_login 60 = .ok (.invokevirtual 140, 3) := by decide +kernel
theorem dX7_login_63 : decode cX7_login 63 = .ok (.aload_n 0, 1) := by decide +kernel
theorem dX7_login_64 : decode cX7_login 64 = .ok (.getfield 61, 3) := by decide +kernel
theorem dX7_login_67 : decode cX7_login 67 = .ok (.invokevirtual 144, 3) := by decide +kernel
theorem dX7_login_70 : decode cX7_login 70 = .ok (.aload_n 0, 1) := by decide +kernel
theorem dX7_login_71 : decode cX7_login 71 = .ok (.dup, 1) := by decide +kernel
theorem dX7_login_72 : decode cX7_login 72 = .ok (.getfield 76, 3) := by decide +kernel
theorem dX7_login_75 : decode cX7_login 75 = .ok (.iconst 1, 1) := by decide +kernel
theorem dX7_login_76 : decode cX7_login 76 = .ok (.iadd, 1) := by decide +kernel
theorem dX7_login_77 : decode cX7_login 77 = .ok (.putfield 76, 3) := by decide +kernel
theorem dX7_login_80 : decode cX7_login 80 = .ok (.aload_n 0, 1) := by decide +kernel
theorem dX7_login_81 : decode cX7_login 81 = .ok (.aload_n 0, 1) := by decide +kernel
theorem dX7_login_82 : decode cX7_login 82 = .ok (.getfield 44, 3) := by decide +kernel
theorem dX7_login_85 : decode cX7_login 85 = .ok (.iload 4, 2) := by decide +kernel
theorem dX7_login_87 : decode cX7_login 87 = .ok (.aaload, 1) := by decide +kernel
theorem dX7_login_88 : decode cX7_login 88 = .ok (.invokevirtual 148, 3) := by decide +kernel
theorem dX7_login_91 : decode cX7_login 91 = .ok (.iload 4, 2) := by decide +kernel
theorem dX7_login_93 : decode cX7_login 93 = .ok (.ireturn, 1) := by decide +kernel
theorem dX7_request_0 : decode cX7_request 0 = .ok (.aload_n 0, 1) := by decide +kernel
theorem dX7_request_1 : decode cX7_request 1 = .ok (.iload_n 1, 1) := by decide +kernel
theorem dX7_request_2 : decode cX7_request 2 = .ok (.invokevirtual 152, 3) := by decide +kernel
theorem dX7_request_5 : decode cX7_request 5 = .ok (.istore_n 2, 1) := by decide +kernel
theorem dX7_request_6 : decode cX7_request 6 = .ok (.aload_n 0, 1) := by decide +kernel
theorem dX7_request_7 : decode cX7_request 7 = .ok (.iload_n 2, 1) := by decide +kernel
theorem dX7_request_8 : decode cX7_request 8 = .ok (.invokevirtual 156, 3) := by decide +kernel
theorem dX7_request_11 : decode cX7_request 11 = .ok (.iload_n 2, 1) := by decide +kernel
theorem dX7_request_12 : decode cX7_request 12 = .ok (.ifCond .lt 55, 3) := by decide +kernel
theorem dX7_request_15 : decode cX7_request 15 = .ok (.aload_n 0, 1) := by decide +kernel
theorem dX7_request_16 : decode cX7_request 16 = .ok (.getfield 44, 3) := by decide +kernel
theorem dX7_request_19 : decode cX7_request 19 = .ok (.iload_n 2, 1) := by decide +kernel
theorem dX7_request_20 : decode cX7_request 20 = .ok (.aaload, 1) := by decide +kernel
theorem dX7_request_21 : decode cX7_request 21 = .ok (.aload_n 0, 1) := by decide +kernel
theorem dX7_request_22 : decode cX7_request 22 = .ok (.getfield 61, 3) := by decide +kernel
theorem dX7_request_25 : decode cX7_request 25 = .ok (.putfield 160, 3) := by decide +kernel
theorem dX7_request_28 : decode cX7_request 28 = .ok (.aload_n 0, 1) := by decide +kernel
theorem dX7_request_29 : decode cX7_request 29 = .ok (.getfield 55, 3) := by decide +kernel
theorem dX7_request_32 : decode cX7_request 32 = .ok (.iconst 0, 1) := by decide +kernel
theorem dX7_request_33 : decode cX7_request 33 = .ok (.iaload, 1) := by decide +kernel
theorem dX7_request_34 : decode cX7_request 34 = .ok (.aload_n 0, 1) := by decide +kernel
theorem dX7_request_35 : decode cX7_request 35 = .ok (.getfield 19, 3) := by decide +kernel
theorem dX7_request_38 : decode cX7_request 38 = .ok (.invokevirtual 108, 3) := by decide +kernel
theorem dX7_request_41 : decode cX7_request 41 = .ok (.getfield 118, 3) := by decide +kernel
theorem dX7_request_44 : decode cX7_request 44 = .ok (.if_icmp .eq 23, 3) := by decide +kernel
theorem dX7_request_47 : decode cX7_request 47 = .ok (.aload_n 0, 1) := by decide +kernel
theorem dX7_request_48 : decode cX7_request 48 = .ok (.aload_n 0, 1) := by decide +kernel
theorem dX7_request_49 : decode cX7_request 49 = .ok (.getfield 44, 3) := by decide +kernel
theorem dX7_request_52 : decode cX7_request 52 = .ok (.iload_n 2, 1) := by decide +kernel
theorem dX7_request_53 : decode cX7_request 53 = .ok (.aaload, 1) := by decide +kernel
theorem dX7_request_54 : decode cX7_request 54 = .ok (.invokevirtual 148, 3) := by decide +kernel
theorem dX7_request_57 : decode cX7_request 57 = .ok (.aload_n 0, 1) := by decide +kernel
theorem dX7_request_58 : decode cX7_request 58 = .ok (.dup, 1) := by decide +kernel
theorem dX7_request_59 : decode cX7_request 59 = .ok (.getfield 86, 3) := by decide +kernel
theorem dX7_request_62 : decode cX7_request 62 = .ok (.iconst 1, 1) := by decide +kernel
theorem dX7_request_63 : decode cX7_request 63 = .ok (.iadd, 1) := by decide +kernel
theorem dX7_request_64 : decode cX7_request 64 = .ok (.putfield 86, 3) := by decide +kernel
theorem dX7_request_67 : decode cX7_request 67 = .ok (.iload_n 2, 1) := by decide +kernel
theorem dX7_request_68 : decode cX7_request 68 = .ok (.ireturn, 1) := by decide +kernel
theorem dX7_logout_0 : decode cX7_logout 0 = .ok (.aload_n 0, 1) := by decide +kernel
theorem dX7_logout_1 : decode cX7_logout 1 = .ok (.iconst 1, 1) := by decide +kernel
theorem dX7_logout_2 : decode cX7_logout 2 = .ok (.invokevirtual 152, 3) := by decide +kernel
theorem dX7_logout_5 : decode cX7_logout 5 = .ok (.istore_n 1, 1) := by decide +kernel
theorem dX7_logout_6 : decode cX7_logout 6 = .ok (.aload_n 0, 1) := by decide +kernel
theorem dX7_logout_7 : decode cX7_logout 7 = .ok (.iload_n 1, 1) := by decide +kernel
theorem dX7_logout_8 : decode cX7_logout 8 = .ok (.invokevirtual 156, 3) := by decide +kernel
theorem dX7_logout_11 : decode cX7_logout 11 = .ok (.iload_n 1, 1) := by decide +kernel
theorem dX7_logout_12 : decode cX7_logout 12 = .ok (.ifCond .lt 13, 3) := by decide +kernel
theorem dX7_logout_15 : decode cX7_logout 15 = .ok (.aload_n 0, 1) := by decide +kernel
theorem dX7_logout_16 : decode cX7_logout 16 = .ok (.getfield 44, 3) := by decide +kernel
theorem dX7_logout_19 : decode cX7_logout 19 = .ok (.iload_n 1, 1) := by decide +kernel
theorem dX7_logout_20 : decode cX7_logout 20 = .ok (.aaload, 1) := by decide +kernel
theorem dX7_logout_21 : decode cX7_logout 21 = .ok (.iconst 0, 1) := by decide +kernel
theorem dX7_logout_22 : decode cX7_logout 22 = .ok (.putfield 163, 3) := by decide +kernel
theorem dX7_logout_25 : decode cX7_logout 25 = .ok (.iload_n 1, 1) := by decide +kernel
theorem dX7_logout_26 : decode cX7_logout 26 = .ok (.ireturn, 1) := by decide +kernel
theorem dX7_revoke_0 : decode cX7_revoke 0 = .ok (.iload_n 1, 1) := by decide +kernel
theorem dX7_revoke_1 : decode cX7_revoke 1 = .ok (.invokestatic 121, 3) := by decide +kernel
theorem dX7_revoke_4 : decode cX7_revoke 4 = .ok (.ifCond .ne 11, 3) := by decide +kernel
theorem dX7_revoke_7 : decode cX7_revoke 7 = .ok (.new 97, 3) := by decide +kernel
theorem dX7_revoke_10 : decode cX7_revoke 10 = .ok (.dup, 1) := by decide +kernel
theorem dX7_revoke_11 : decode cX7_revoke 11 = .ok (.invokespecial 99, 3) := by decide +kernel
theorem dX7_revoke_14 : decode cX7_revoke 14 = .ok (.athrow, 1) := by decide +kernel
theorem dX7_revoke_15 : decode cX7_revoke 15 = .ok (.iconst 0, 1) := by decide +kernel
theorem dX7_revoke_16 : decode cX7_revoke 16 = .ok (.istore_n 2, 1) := by decide +kernel
theorem dX7_revoke_17 : decode cX7_revoke 17 = .ok (.iconst 0, 1) := by decide +kernel
theorem dX7_revoke_18 : decode cX7_revoke 18 = .ok (.istore_n 3, 1) := by decide +kernel
theorem dX7_revoke_19 : decode cX7_revoke 19 = .ok (.iload_n 3, 1) := by decide +kernel
theorem dX7_revoke_20 : decode cX7_revoke 20 = .ok (.bipush 8, 2) := by decide +kernel
theorem dX7_revoke_22 : decode cX7_revoke 22 = .ok (.if_icmp .ge 47, 3) := by decide +kernel
theorem dX7_revoke_25 : decode cX7_revoke 25 = .ok (.aload_n 0, 1) := by decide +kernel
theorem dX7_revoke_26 : decode cX7_revoke 26 = .ok (.getfield 44, 3) := by decide +kernel
theorem dX7_revoke_29 : decode cX7_revoke 29 = .ok (.iload_n 3, 1) := by decide +kernel
theorem dX7_revoke_30 : decode cX7_revoke 30 = .ok (.aaload, 1) := by decide +kernel
theorem dX7_revoke_31 : decode cX7_revoke 31 = .ok (.getfield 163, 3) := by decide +kernel
theorem dX7_revoke_34 : decode cX7_revoke 34 = .ok (.ifCond .eq 29, 3) := by decide +kernel
theorem dX7_revoke_37 : decode cX7_revoke 37 = .ok (.aload_n 0, 1) := by decide +kernel
theorem dX7_revoke_38 : decode cX7_revoke 38 = .ok (.getfield 44, 3) := by decide +kernel
theorem dX7_revoke_41 : decode cX7_revoke 41 = .ok (.iload_n 3, 1) := by decide +kernel
theorem dX7_revoke_42 : decode cX7_revoke 42 = .ok (.aaload, 1) := by decide +kernel
theorem dX7_revoke_43 : decode cX7_revoke 43 = .ok (.getfield 167, 3) := by decide +kernel
theorem dX7_revoke_46 : decode cX7_revoke 46 = .ok (.iload_n 1, 1) := by decide +kernel
theorem dX7_revoke_47 : decode cX7_revoke 47 = .ok (.if_icmp .ne 16, 3) := by decide +kernel
theorem dX7_revoke_50 : decode cX7_revoke 50 = .ok (.aload_n 0, 1) := by decide +kernel
theorem dX7_revoke_51 : decode cX7_revoke 51 = .ok (.getfield 44, 3) := by decide +kernel
theorem dX7_revoke_54 : decode cX7_revoke 54 = .ok (.iload_n 3, 1) := by decide +kernel
theorem dX7_revoke_55 : decode cX7_revoke 55 = .ok (.aaload, 1) := by decide +kernel
theorem dX7_revoke_56 : decode cX7_revoke 56 = .ok (.iconst 0, 1) := by decide +kernel
theorem dX7_revoke_57 : decode cX7_revoke 57 = .ok (.putfield 163, 3) := by decide +kernel
theorem dX7_revoke_60 : decode cX7_revoke 60 = .ok (.iinc 2 1, 3) := by decide +kernel
theorem dX7_revoke_63 : decode cX7_revoke 63 = .ok (.iinc 3 1, 3) := by decide +kernel
theorem dX7_revoke_66 : decode cX7_revoke 66 = .ok (.goto (-47), 3) := by decide +kernel
theorem dX7_revoke_69 : decode cX7_revoke 69 = .ok (.iload_n 2, 1) := by decide +kernel
theorem dX7_revoke_70 : decode cX7_revoke 70 = .ok (.ireturn, 1) := by decide +kernel
theorem dX7_type_0 : decode cX7_type 0 = .ok (.iload_n 1, 1) := by decide +kernel
theorem dX7_type_1 : decode cX7_type 1 = .ok (.invokestatic 170, 3) := by decide +kernel
theorem dX7_type_4 : decode cX7_type 4 = .ok (.ifCond .ne 11, 3) := by decide +kernel
theorem dX7_type_7 : decode cX7_type 7 = .ok (.new 97, 3) := by decide +kernel
theorem dX7_type_10 : decode cX7_type 10 = .ok (.dup, 1) := by decide +kernel
theorem dX7_type_11 : decode cX7_type 11 = .ok (.invokespecial 99, 3) := by decide +kernel
theorem dX7_type_14 : decode cX7_type 14 = .ok (.athrow, 1) := by decide +kernel
theorem dX7_type_15 : decode cX7_type 15 = .ok (.aload_n 0, 1) := by decide +kernel
theorem dX7_type_16 : decode cX7_type 16 = .ok (.iload_n 1, 1) := by decide +kernel
theorem dX7_type_17 : decode cX7_type 17 = .ok (.invokevirtual 173, 3) := by decide +kernel
theorem dX7_type_20 : decode cX7_type 20 = .ok (.astore 6, 2) := by decide +kernel
theorem dX7_type_22 : decode cX7_type 22 = .ok (.iload_n 2, 1) := by decide +kernel
theorem dX7_type_23 : decode cX7_type 23 = .ok (.invokestatic 177, 3) := by decide +kernel
theorem dX7_type_26 : decode cX7_type 26 = .ok (.iload_n 3, 1) := by decide +kernel
theorem dX7_type_27 : decode cX7_type 27 = .ok (.invokestatic 177, 3) := by decide +kernel
theorem dX7_type_30 : decode cX7_type 30 = .ok (.iadd, 1) := by decide +kernel
theorem dX7_type_31 : decode cX7_type 31 = .ok (.iload 4, 2) := by decide +kernel
theorem dX7_type_33 : decode cX7_type 33 = .ok (.invokestatic 177, 3) := by decide +kernel
theorem dX7_type_36 : decode cX7_type 36 = .ok (.iadd, 1) := by decide +kernel
theorem dX7_type_37 : decode cX7_type 37 = .ok (.iload 5, 2) := by decide +kernel
theorem dX7_type_39 : decode cX7_type 39 = .ok (.invokestatic 177, 3) := by decide +kernel
theorem dX7_type_42 : decode cX7_type 42 = .ok (.iadd, 1) := by decide +kernel
theorem dX7_type_43 : decode cX7_type 43 = .ok (.istore 7, 2) := by decide +kernel
theorem dX7_type_45 : decode cX7_type 45 = .ok (.aload 6, 2) := by decide +kernel
theorem dX7_type_47 : decode cX7_type 47 = .ok (.getfield 181, 3) := by decide +kernel
theorem dX7_type_50 : decode cX7_type 50 = .ok (.iload 7, 2) := by decide +kernel
theorem dX7_type_52 : decode cX7_type 52 = .ok (.iadd, 1) := by decide +kernel
theorem dX7_type_53 : decode cX7_type 53 = .ok (.bipush 40, 2) := by decide +kernel
theorem dX7_type_55 : decode cX7_type 55 = .ok (.if_icmp .le 11, 3) := by decide +kernel
theorem dX7_type_58 : decode cX7_type 58 = .ok (.new 184, 3) := by decide +kernel
theorem dX7_type_61 : decode cX7_type 61 = .ok (.dup, 1) := by decide +kernel
theorem dX7_type_62 : decode cX7_type 62 = .ok (.invokespecial 186, 3) := by decide +kernel
theorem dX7_type_65 : decode cX7_type 65 = .ok (.athrow, 1) := by decide +kernel
theorem dX7_type_66 : decode cX7_type 66 = .ok (.aload 6, 2) := by decide +kernel
theorem dX7_type_68 : decode cX7_type 68 = .ok (.iload_n 2, 1) := by decide +kernel
theorem dX7_type_69 : decode cX7_type 69 = .ok (.invokevirtual 187, 3) := by decide +kernel
theorem dX7_type_72 : decode cX7_type 72 = .ok (.aload 6, 2) := by decide +kernel
theorem dX7_type_74 : decode cX7_type 74 = .ok (.iload_n 3, 1) := by decide +kernel
theorem dX7_type_75 : decode cX7_type 75 = .ok (.invokevirtual 187, 3) := by decide +kernel
theorem dX7_type_78 : decode cX7_type 78 = .ok (.aload 6, 2) := by decide +kernel
theorem dX7_type_80 : decode cX7_type 80 = .ok (.iload 4, 2) := by decide +kernel
theorem dX7_type_82 : decode cX7_type 82 = .ok (.invokevirtual 187, 3) := by decide +kernel
theorem dX7_type_85 : decode cX7_type 85 = .ok (.aload 6, 2) := by decide +kernel
theorem dX7_type_87 : decode cX7_type 87 = .ok (.iload 5, 2) := by decide +kernel
theorem dX7_type_89 : decode cX7_type 89 = .ok (.invokevirtual 187, 3) := by decide +kernel
theorem dX7_type_92 : decode cX7_type 92 = .ok (.aload 6, 2) := by decide +kernel
theorem dX7_type_94 : decode cX7_type 94 = .ok (.getfield 181, 3) := by decide +kernel
theorem dX7_type_97 : decode cX7_type 97 = .ok (.ireturn, 1) := by decide +kernel
theorem dX7_erase_0 : decode cX7_erase 0 = .ok (.iload_n 1, 1) := by decide +kernel
theorem dX7_erase_1 : decode cX7_erase 1 = .ok (.invokestatic 170, 3) := by decide +kernel
theorem dX7_erase_4 : decode cX7_erase 4 = .ok (.ifCond .ne 11, 3) := by decide +kernel
theorem dX7_erase_7 : decode cX7_erase 7 = .ok (.new 97, 3) := by decide +kernel
theorem dX7_erase_10 : decode cX7_erase 10 = .ok (.dup, 1) := by decide +kernel
theorem dX7_erase_11 : decode cX7_erase 11 = .ok (.invokespecial 99, 3) := by decide +kernel
theorem dX7_erase_14 : decode cX7_erase 14 = .ok (.athrow, 1) := by decide +kernel
theorem dX7_erase_15 : decode cX7_erase 15 = .ok (.aload_n 0, 1) := by decide +kernel
theorem dX7_erase_16 : decode cX7_erase 16 = .ok (.iload_n 1, 1) := by decide +kernel
theorem dX7_erase_17 : decode cX7_erase 17 = .ok (.invokevirtual 173, 3) := by decide +kernel
theorem dX7_erase_20 : decode cX7_erase 20 = .ok (.astore_n 2, 1) := by decide +kernel
theorem dX7_erase_21 : decode cX7_erase 21 = .ok (.aload_n 2, 1) := by decide +kernel
theorem dX7_erase_22 : decode cX7_erase 22 = .ok (.getfield 181, 3) := by decide +kernel
theorem dX7_erase_25 : decode cX7_erase 25 = .ok (.istore_n 3, 1) := by decide +kernel
theorem dX7_erase_26 : decode cX7_erase 26 = .ok (.aload_n 2, 1) := by decide +kernel
theorem dX7_erase_27 : decode cX7_erase 27 = .ok (.iconst 0, 1) := by decide +kernel
theorem dX7_erase_28 : decode cX7_erase 28 = .ok (.putfield 181, 3) := by decide +kernel
theorem dX7_erase_31 : decode cX7_erase 31 = .ok (.iload_n 3, 1) := by decide +kernel
theorem dX7_erase_32 : decode cX7_erase 32 = .ok (.ireturn, 1) := by decide +kernel
theorem dX7_put_0 : decode cX7_put 0 = .ok (.iload_n 1, 1) := by decide +kernel
theorem dX7_put_1 : decode cX7_put 1 = .ok (.invokestatic 170, 3) := by decide +kernel
theorem dX7_put_4 : decode cX7_put 4 = .ok (.ifCond .eq 15, 3) := by decide +kernel
theorem dX7_put_7 : decode cX7_put 7 = .ok (.iload_n 3, 1) := by decide +kernel
theorem dX7_put_8 : decode cX7_put 8 = .ok (.iconst 1, 1) := by decide +kernel
theorem dX7_put_9 : decode cX7_put 9 = .ok (.if_icmp .lt 10, 3) := by decide +kernel
theorem dX7_put_12 : decode cX7_put 12 = .ok (.iload_n 3, 1) := by decide +kernel
theorem dX7_put_13 : decode cX7_put 13 = .ok (.sipush 255, 3) := by decide +kernel
theorem dX7_put_16 : decode cX7_put 16 = .ok (.if_icmp .le 11, 3) := by decide +kernel
theorem dX7_put_19 : decode cX7_put 19 = .ok (.new 97, 3) := by decide +kernel
theorem dX7_put_22 : decode cX7_put 22 = .ok (.dup, 1) := by decide +kernel
theorem dX7_put_23 : decode cX7_put 23 = .ok (.invokespecial 99, 3) := by decide +kernel
theorem dX7_put_26 : decode cX7_put 26 = .ok (.athrow, 1) := by decide +kernel
theorem dX7_put_27 : decode cX7_put 27 = .ok (.aload_n 0, 1) := by decide +kernel
theorem dX7_put_28 : decode cX7_put 28 = .ok (.iload_n 1, 1) := by decide +kernel
theorem dX7_put_29 : decode cX7_put 29 = .ok (.invokevirtual 173, 3) := by decide +kernel
theorem dX7_put_32 : decode cX7_put 32 = .ok (.astore 4, 2) := by decide +kernel
theorem dX7_put_34 : decode cX7_put 34 = .ok (.aload 4, 2) := by decide +kernel
theorem dX7_put_36 : decode cX7_put 36 = .ok (.iload_n 2, 1) := by decide +kernel
theorem dX7_put_37 : decode cX7_put 37 = .ok (.invokevirtual 190, 3) := by decide +kernel
theorem dX7_put_40 : decode cX7_put 40 = .ok (.ifCond .ne 11, 3) := by decide +kernel
theorem dX7_put_43 : decode cX7_put 43 = .ok (.new 193, 3) := by decide +kernel
theorem dX7_put_46 : decode cX7_put 46 = .ok (.dup, 1) := by decide +kernel
theorem dX7_put_47 : decode cX7_put 47 = .ok (.invokespecial 195, 3) := by decide +kernel
theorem dX7_put_50 : decode cX7_put 50 = .ok (.athrow, 1) := by decide +kernel
theorem dX7_put_51 : decode cX7_put 51 = .ok (.aload 4, 2) := by decide +kernel
theorem dX7_put_53 : decode cX7_put 53 = .ok (.getfield 196, 3) := by decide +kernel
theorem dX7_put_56 : decode cX7_put 56 = .ok (.iload_n 2, 1) := by decide +kernel
theorem dX7_put_57 : decode cX7_put 57 = .ok (.iaload, 1) := by decide +kernel
theorem dX7_put_58 : decode cX7_put 58 = .ok (.istore 5, 2) := by decide +kernel
theorem dX7_put_60 : decode cX7_put 60 = .ok (.aload 4, 2) := by decide +kernel
theorem dX7_put_62 : decode cX7_put 62 = .ok (.getfield 196, 3) := by decide +kernel
theorem dX7_put_65 : decode cX7_put 65 = .ok (.iload_n 2, 1) := by decide +kernel
theorem dX7_put_66 : decode cX7_put 66 = .ok (.iload_n 3, 1) := by decide +kernel
theorem dX7_put_67 : decode cX7_put 67 = .ok (.iastore, 1) := by decide +kernel
theorem dX7_put_68 : decode cX7_put 68 = .ok (.iload 5, 2) := by decide +kernel
theorem dX7_put_70 : decode cX7_put 70 = .ok (.ireturn, 1) := by decide +kernel
theorem dX7_sign_0 : decode cX7_sign 0 = .ok (.iload_n 1, 1) := by decide +kernel
theorem dX7_sign_1 : decode cX7_sign 1 = .ok (.invokestatic 170, 3) := by decide +kernel
theorem dX7_sign_4 : decode cX7_sign 4 = .ok (.ifCond .ne 11, 3) := by decide +kernel
theorem dX7_sign_7 : decode cX7_sign 7 = .ok (.new 97, 3) := by decide +kernel
theorem dX7_sign_10 : decode cX7_sign 10 = .ok (.dup, 1) := by decide +kernel
theorem dX7_sign_11 : decode cX7_sign 11 = .ok (.invokespecial 99, 3) := by decide +kernel
theorem dX7_sign_14 : decode cX7_sign 14 = .ok (.athrow, 1) := by decide +kernel
theorem dX7_sign_15 : decode cX7_sign 15 = .ok (.aload_n 0, 1) := by decide +kernel
theorem dX7_sign_16 : decode cX7_sign 16 = .ok (.iload_n 1, 1) := by decide +kernel
theorem dX7_sign_17 : decode cX7_sign 17 = .ok (.invokevirtual 173, 3) := by decide +kernel
theorem dX7_sign_20 : decode cX7_sign 20 = .ok (.astore_n 3, 1) := by decide +kernel
theorem dX7_sign_21 : decode cX7_sign 21 = .ok (.aload_n 3, 1) := by decide +kernel
theorem dX7_sign_22 : decode cX7_sign 22 = .ok (.iload_n 2, 1) := by decide +kernel
theorem dX7_sign_23 : decode cX7_sign 23 = .ok (.invokevirtual 190, 3) := by decide +kernel
theorem dX7_sign_26 : decode cX7_sign 26 = .ok (.ifCond .eq 12, 3) := by decide +kernel
theorem dX7_sign_29 : decode cX7_sign 29 = .ok (.aload_n 3, 1) := by decide +kernel
theorem dX7_sign_30 : decode cX7_sign 30 = .ok (.getfield 196, 3) := by decide +kernel
theorem dX7_sign_33 : decode cX7_sign 33 = .ok (.iload_n 2, 1) := by decide +kernel
theorem dX7_sign_34 : decode cX7_sign 34 = .ok (.iaload, 1) := by decide +kernel
theorem dX7_sign_35 : decode cX7_sign 35 = .ok (.goto 4, 3) := by decide +kernel
theorem dX7_sign_38 : decode cX7_sign 38 = .ok (.iconst (-1), 1) := by decide +kernel
theorem dX7_sign_39 : decode cX7_sign 39 = .ok (.ireturn, 1) := by decide +kernel
theorem dX7_session_0 : decode cX7_session 0 = .ok (.iload_n 1, 1) := by decide +kernel
theorem dX7_session_1 : decode cX7_session 1 = .ok (.ifCond .lt 18, 3) := by decide +kernel
theorem dX7_session_4 : decode cX7_session 4 = .ok (.iload_n 1, 1) := by decide +kernel
theorem dX7_session_5 : decode cX7_session 5 = .ok (.bipush 8, 2) := by decide +kernel
theorem dX7_session_7 : decode cX7_session 7 = .ok (.if_icmp .ge 12, 3) := by decide +kernel
theorem dX7_session_10 : decode cX7_session 10 = .ok (.iload_n 2, 1) := by decide +kernel
theorem dX7_session_11 : decode cX7_session 11 = .ok (.ifCond .lt 8, 3) := by decide +kernel
theorem dX7_session_14 : decode cX7_session 14 = .ok (.iload_n 2, 1) := by decide +kernel
theorem dX7_session_15 : decode cX7_session 15 = .ok (.iconst 3, 1) := by decide +kernel
theorem dX7_session_16 : decode cX7_session 16 = .ok (.if_icmp .le 11, 3) := by decide +kernel
theorem dX7_session_19 : decode cX7_session 19 = .ok (.new 97, 3) := by decide +kernel
theorem dX7_session_22 : decode cX7_session 22 = .ok (.dup, 1) := by decide +kernel
theorem dX7_session_23 : decode cX7_session 23 = .ok (.invokespecial 99, 3) := by decide +kernel
theorem dX7_session_26 : decode cX7_session 26 = .ok (.athrow, 1) := by decide +kernel
theorem dX7_session_27 : decode cX7_session 27 = .ok (.aload_n 0, 1) := by decide +kernel
theorem dX7_session_28 : decode cX7_session 28 = .ok (.getfield 44, 3) := by decide +kernel
theorem dX7_session_31 : decode cX7_session 31 = .ok (.iload_n 1, 1) := by decide +kernel
theorem dX7_session_32 : decode cX7_session 32 = .ok (.aaload, 1) := by decide +kernel
theorem dX7_session_33 : decode cX7_session 33 = .ok (.astore_n 3, 1) := by decide +kernel
theorem dX7_session_34 : decode cX7_session 34 = .ok (.aload_n 3, 1) := by decide +kernel
theorem dX7_session_35 : decode cX7_session 35 = .ok (.getfield 163, 3) := by decide +kernel
theorem dX7_session_38 : decode cX7_session 38 = .ok (.ifCond .ne 7, 3) := by decide +kernel
theorem dX7_session_41 : decode cX7_session 41 = .ok (.ldc2_w 199, 3) := by decide +kernel
theorem dX7_session_44 : decode cX7_session 44 = .ok (.lreturn, 1) := by decide +kernel
theorem dX7_session_45 : decode cX7_session 45 = .ok (.iload_n 2, 1) := by decide +kernel
theorem dX7_session_46 : decode cX7_session 46 = .ok (.tableswitch 42 0 2 #[26, 32, 37], 26) := by decide +kernel
theorem dX7_session_72 : decode cX7_session 72 = .ok (.aload_n 3, 1) := by decide +kernel
theorem dX7_session_73 : decode cX7_session 73 = .ok (.getfield 167, 3) := by decide +kernel
theorem dX7_session_76 : decode cX7_session 76 = .ok (.i2l, 1) := by decide +kernel
theorem dX7_session_77 : decode cX7_session 77 = .ok (.lreturn, 1) := by decide +kernel
theorem dX7_session_78 : decode cX7_session 78 = .ok (.aload_n 3, 1) := by decide +kernel
theorem dX7_session_79 : decode cX7_session 79 = .ok (.getfield 201, 3) := by decide +kernel
theorem dX7_session_82 : decode cX7_session 82 = .ok (.lreturn, 1) := by decide +kernel
theorem dX7_session_83 : decode cX7_session 83 = .ok (.aload_n 3, 1) := by decide +kernel
theorem dX7_session_84 : decode cX7_session 84 = .ok (.getfield 204, 3) := by decide +kernel
theorem dX7_session_87 : decode cX7_session 87 = .ok (.lreturn, 1) := by decide +kernel
theorem dX7_session_88 : decode cX7_session 88 = .ok (.aload_n 3, 1) := by decide +kernel
theorem dX7_session_89 : decode cX7_session 89 = .ok (.getfield 160, 3) := by decide +kernel
theorem dX7_session_92 : decode cX7_session 92 = .ok (.lreturn, 1) := by decide +kernel
theorem dX7_count_0 : decode cX7_count 0 = .ok (.iload_n 1, 1) := by decide +kernel
theorem dX7_count_1 : decode cX7_count 1 = .ok (.tableswitch 95 0 6 #[43, 48, 53, 58, 63, 68, 84], 43) := by decide +kernel
theorem dX7_count_44 : decode cX7_count 44 = .ok (.aload_n 0, 1) := by decide +kernel
theorem dX7_count_45 : decode cX7_count 45 = .ok (.invokevirtual 207, 3) := by decide +kernel
theorem dX7_count_48 : decode cX7_count 48 = .ok (.ireturn, 1) := by decide +kernel
theorem dX7_count_49 : decode cX7_count 49 = .ok (.aload_n 0, 1) := by decide +kernel
theorem dX7_count_50 : decode cX7_count 50 = .ok (.getfield 76, 3) := by decide +kernel
theorem dX7_count_53 : decode cX7_count 53 = .ok (.ireturn, 1) := by decide +kernel
theorem dX7_count_54 : decode cX7_count 54 = .ok (.aload_n 0, 1) := by decide +kernel
theorem dX7_count_55 : decode cX7_count 55 = .ok (.getfield 80, 3) := by decide +kernel
theorem dX7_count_58 : decode cX7_count 58 = .ok (.ireturn, 1) := by decide +kernel
theorem dX7_count_59 : decode cX7_count 59 = .ok (.aload_n 0, 1) := by decide +kernel
theorem dX7_count_60 : decode cX7_count 60 = .ok (.getfield 83, 3) := by decide +kernel
theorem dX7_count_63 : decode cX7_count 63 = .ok (.ireturn, 1) := by decide +kernel
theorem dX7_count_64 : decode cX7_count 64 = .ok (.aload_n 0, 1) := by decide +kernel
theorem dX7_count_65 : decode cX7_count 65 = .ok (.getfield 86, 3) := by decide +kernel
theorem dX7_count_68 : decode cX7_count 68 = .ok (.ireturn, 1) := by decide +kernel
theorem dX7_count_69 : decode cX7_count 69 = .ok (.aload_n 0, 1) := by decide +kernel
theorem dX7_count_70 : decode cX7_count 70 = .ok (.getfield 19, 3) := by decide +kernel
theorem dX7_count_73 : decode cX7_count 73 = .ok (.aload_n 0, 1) := by decide +kernel
theorem dX7_count_74 : decode cX7_count 74 = .ok (.getfield 61, 3) := by decide +kernel
theorem dX7_count_77 : decode cX7_count 77 = .ok (.aload_n 0, 1) := by decide +kernel
theorem dX7_count_78 : decode cX7_count 78 = .ok (.getfield 67, 3) := by decide +kernel
theorem dX7_count_81 : decode cX7_count 81 = .ok (.invokevirtual 210, 3) := by decide +kernel
theorem dX7_count_84 : decode cX7_count 84 = .ok (.ireturn, 1) := by decide +kernel
theorem dX7_count_85 : decode cX7_count 85 = .ok (.aload_n 0, 1) := by decide +kernel
theorem dX7_count_86 : decode cX7_count 86 = .ok (.getfield 19, 3) := by decide +kernel
theorem dX7_count_89 : decode cX7_count 89 = .ok (.invokevirtual 108, 3) := by decide +kernel
theorem dX7_count_92 : decode cX7_count 92 = .ok (.getfield 118, 3) := by decide +kernel
theorem dX7_count_95 : decode cX7_count 95 = .ok (.ireturn, 1) := by decide +kernel
theorem dX7_count_96 : decode cX7_count 96 = .ok (.new 97, 3) := by decide +kernel
theorem dX7_count_99 : decode cX7_count 99 = .ok (.dup, 1) := by decide +kernel
theorem dX7_count_100 : decode cX7_count 100 = .ok (.invokespecial 99, 3) := by decide +kernel
theorem dX7_count_103 : decode cX7_count 103 = .ok (.athrow, 1) := by decide +kernel
theorem dX7_octet_0 : decode cX7_octet 0 = .ok (.iload_n 1, 1) := by decide +kernel
theorem dX7_octet_1 : decode cX7_octet 1 = .ok (.ifCond .lt 9, 3) := by decide +kernel
theorem dX7_octet_4 : decode cX7_octet 4 = .ok (.iload_n 1, 1) := by decide +kernel
theorem dX7_octet_5 : decode cX7_octet 5 = .ok (.bipush 32, 2) := by decide +kernel
theorem dX7_octet_7 : decode cX7_octet 7 = .ok (.if_icmp .lt 11, 3) := by decide +kernel
theorem dX7_octet_10 : decode cX7_octet 10 = .ok (.new 97, 3) := by decide +kernel
theorem dX7_octet_13 : decode cX7_octet 13 = .ok (.dup, 1) := by decide +kernel
theorem dX7_octet_14 : decode cX7_octet 14 = .ok (.invokespecial 99, 3) := by decide +kernel
theorem dX7_octet_17 : decode cX7_octet 17 = .ok (.athrow, 1) := by decide +kernel
theorem dX7_octet_18 : decode cX7_octet 18 = .ok (.aload_n 0, 1) := by decide +kernel
theorem dX7_octet_19 : decode cX7_octet 19 = .ok (.getfield 10, 3) := by decide +kernel
theorem dX7_octet_22 : decode cX7_octet 22 = .ok (.aload_n 0, 1) := by decide +kernel
theorem dX7_octet_23 : decode cX7_octet 23 = .ok (.getfield 19, 3) := by decide +kernel
theorem dX7_octet_26 : decode cX7_octet 26 = .ok (.invokevirtual 108, 3) := by decide +kernel
theorem dX7_octet_29 : decode cX7_octet 29 = .ok (.getfield 214, 3) := by decide +kernel
theorem dX7_octet_32 : decode cX7_octet 32 = .ok (.aload_n 0, 1) := by decide +kernel
theorem dX7_octet_33 : decode cX7_octet 33 = .ok (.getfield 26, 3) := by decide +kernel
theorem dX7_octet_36 : decode cX7_octet 36 = .ok (.getfield 196, 3) := by decide +kernel
theorem dX7_octet_39 : decode cX7_octet 39 = .ok (.aload_n 0, 1) := by decide +kernel
theorem dX7_octet_40 : decode cX7_octet 40 = .ok (.getfield 26, 3) := by decide +kernel
theorem dX7_octet_43 : decode cX7_octet 43 = .ok (.getfield 181, 3) := by decide +kernel
theorem dX7_octet_46 : decode cX7_octet 46 = .ok (.invokevirtual 217, 3) := by decide +kernel
theorem dX7_octet_49 : decode cX7_octet 49 = .ok (.aload_n 0, 1) := by decide +kernel
theorem dX7_octet_50 : decode cX7_octet 50 = .ok (.getfield 10, 3) := by decide +kernel
theorem dX7_octet_53 : decode cX7_octet 53 = .ok (.getfield 221, 3) := by decide +kernel
theorem dX7_octet_56 : decode cX7_octet 56 = .ok (.iload_n 1, 1) := by decide +kernel
theorem dX7_octet_57 : decode cX7_octet 57 = .ok (.iaload, 1) := by decide +kernel
theorem dX7_octet_58 : decode cX7_octet 58 = .ok (.ireturn, 1) := by decide +kernel
theorem dX7_isLimit_0 : decode cX7_isLimit 0 = .ok (.lload_n 0, 1) := by decide +kernel
theorem dX7_isLimit_1 : decode cX7_isLimit 1 = .ok (.lconst 1, 1) := by decide +kernel
theorem dX7_isLimit_2 : decode cX7_isLimit 2 = .ok (.lcmp, 1) := by decide +kernel
theorem dX7_isLimit_3 : decode cX7_isLimit 3 = .ok (.ifCond .lt 15, 3) := by decide +kernel
theorem dX7_isLimit_6 : decode cX7_isLimit 6 = .ok (.lload_n 0, 1) := by decide +kernel
theorem dX7_isLimit_7 : decode cX7_isLimit 7 = .ok (.ldc2_w 222, 3) := by decide +kernel
theorem dX7_isLimit_10 : decode cX7_isLimit 10 = .ok (.lcmp, 1) := by decide +kernel
theorem dX7_isLimit_11 : decode cX7_isLimit 11 = .ok (.ifCond .gt 7, 3) := by decide +kernel
theorem dX7_isLimit_14 : decode cX7_isLimit 14 = .ok (.iconst 1, 1) := by decide +kernel
theorem dX7_isLimit_15 : decode cX7_isLimit 15 = .ok (.goto 4, 3) := by decide +kernel
theorem dX7_isLimit_18 : decode cX7_isLimit 18 = .ok (.iconst 0, 1) := by decide +kernel
theorem dX7_isLimit_19 : decode cX7_isLimit 19 = .ok (.ireturn, 1) := by decide +kernel
theorem dX7_isUser_0 : decode cX7_isUser 0 = .ok (.iload_n 0, 1) := by decide +kernel
theorem dX7_isUser_1 : decode cX7_isUser 1 = .ok (.ifCond .lt 13, 3) := by decide +kernel
theorem dX7_isUser_4 : decode cX7_isUser 4 = .ok (.iload_n 0, 1) := by decide +kernel
theorem dX7_isUser_5 : decode cX7_isUser 5 = .ok (.bipush 8, 2) := by decide +kernel
theorem dX7_isUser_7 : decode cX7_isUser 7 = .ok (.if_icmp .ge 7, 3) := by decide +kernel
theorem dX7_isUser_10 : decode cX7_isUser 10 = .ok (.iconst 1, 1) := by decide +kernel
theorem dX7_isUser_11 : decode cX7_isUser 11 = .ok (.goto 4, 3) := by decide +kernel
theorem dX7_isUser_14 : decode cX7_isUser 14 = .ok (.iconst 0, 1) := by decide +kernel
theorem dX7_isUser_15 : decode cX7_isUser 15 = .ok (.ireturn, 1) := by decide +kernel
theorem dX7_isText_0 : decode cX7_isText 0 = .ok (.iload_n 0, 1) := by decide +kernel
theorem dX7_isText_1 : decode cX7_isText 1 = .ok (.ifCond .eq 8, 3) := by decide +kernel
theorem dX7_isText_4 : decode cX7_isText 4 = .ok (.iload_n 0, 1) := by decide +kernel
theorem dX7_isText_5 : decode cX7_isText 5 = .ok (.iconst 1, 1) := by decide +kernel
theorem dX7_isText_6 : decode cX7_isText 6 = .ok (.if_icmp .ne 7, 3) := by decide +kernel
theorem dX7_isText_9 : decode cX7_isText 9 = .ok (.iconst 1, 1) := by decide +kernel
theorem dX7_isText_10 : decode cX7_isText 10 = .ok (.goto 4, 3) := by decide +kernel
theorem dX7_isText_13 : decode cX7_isText 13 = .ok (.iconst 0, 1) := by decide +kernel
theorem dX7_isText_14 : decode cX7_isText 14 = .ok (.ireturn, 1) := by decide +kernel
theorem dX7_textOf_0 : decode cX7_textOf 0 = .ok (.iload_n 1, 1) := by decide +kernel
theorem dX7_textOf_1 : decode cX7_textOf 1 = .ok (.ifCond .ne 10, 3) := by decide +kernel
theorem dX7_textOf_4 : decode cX7_textOf 4 = .ok (.aload_n 0, 1) := by decide +kernel
theorem dX7_textOf_5 : decode cX7_textOf 5 = .ok (.getfield 26, 3) := by decide +kernel
theorem dX7_textOf_8 : decode cX7_textOf 8 = .ok (.goto 7, 3) := by decide +kernel
theorem dX7_textOf_11 : decode cX7_textOf 11 = .ok (.aload_n 0, 1) := by decide +kernel
theorem dX7_textOf_12 : decode cX7_textOf 12 = .ok (.getfield 30, 3) := by decide +kernel
theorem dX7_textOf_15 : decode cX7_textOf 15 = .ok (.areturn, 1) := by decide +kernel
theorem dX7_openSessions_0 : decode cX7_openSessions 0 = .ok (.iconst 0, 1) := by decide +kernel
theorem dX7_openSessions_1 : decode cX7_openSessions 1 = .ok (.istore_n 1, 1) := by decide +kernel
theorem dX7_openSessions_2 : decode cX7_openSessions 2 = .ok (.iconst 0, 1) := by decide +kernel
theorem dX7_openSessions_3 : decode cX7_openSessions 3 = .ok (.istore_n 2, 1) := by decide +kernel
theorem dX7_openSessions_4 : decode cX7_openSessions 4 = .ok (.iload_n 2, 1) := by decide +kernel
theorem dX7_openSessions_5 : decode cX7_openSessions 5 = .ok (.bipush 8, 2) := by decide +kernel
theorem dX7_openSessions_7 : decode cX7_openSessions 7 = .ok (.if_icmp .ge 24, 3) := by decide +kernel
theorem dX7_openSessions_10 : decode cX7_openSessions 10 = .ok (.aload_n 0, 1) := by decide +kernel
theorem dX7_openSessions_11 : decode cX7_openSessions 11 = .ok (.getfield 44, 3) := by decide +kernel
theorem dX7_openSessions_14 : decode cX7_openSessions 14 = .ok (.iload_n 2, 1) := by decide +kernel
theorem dX7_openSessions_15 : decode cX7_openSessions 15 = .ok (.aaload, 1) := by decide +kernel
theorem dX7_openSessions_16 : decode cX7_openSessions 16 = .ok (.getfield 163, 3) := by decide +kernel
theorem dX7_openSessions_19 : decode cX7_openSessions 19 = .ok (.ifCond .eq 6, 3) := by decide +kernel
theorem dX7_openSessions_22 : decode cX7_openSessions 22 = .ok (.iinc 1 1, 3) := by decide +kernel
theorem dX7_openSessions_25 : decode cX7_openSessions 25 = .ok (.iinc 2 1, 3) := by decide +kernel
theorem dX7_openSessions_28 : decode cX7_openSessions 28 = .ok (.goto (-24), 3) := by decide +kernel
theorem dX7_openSessions_31 : decode cX7_openSessions 31 = .ok (.iload_n 1, 1) := by decide +kernel
theorem dX7_openSessions_32 : decode cX7_openSessions 32 = .ok (.ireturn, 1) := by decide +kernel
theorem dX7_freeNumber_0 : decode cX7_freeNumber 0 = .ok (.iconst 0, 1) := by decide +kernel
theorem dX7_freeNumber_1 : decode cX7_freeNumber 1 = .ok (.istore_n 1, 1) := by decide +kernel
theorem dX7_freeNumber_2 : decode cX7_freeNumber 2 = .ok (.iload_n 1, 1) := by decide +kernel
theorem dX7_freeNumber_3 : decode cX7_freeNumber 3 = .ok (.bipush 8, 2) := by decide +kernel
theorem dX7_freeNumber_5 : decode cX7_freeNumber 5 = .ok (.if_icmp .ge 23, 3) := by decide +kernel
theorem dX7_freeNumber_8 : decode cX7_freeNumber 8 = .ok (.aload_n 0, 1) := by decide +kernel
theorem dX7_freeNumber_9 : decode cX7_freeNumber 9 = .ok (.getfield 44, 3) := by decide +kernel
theorem dX7_freeNumber_12 : decode cX7_freeNumber 12 = .ok (.iload_n 1, 1) := by decide +kernel
theorem dX7_freeNumber_13 : decode cX7_freeNumber 13 = .ok (.aaload, 1) := by decide +kernel
theorem dX7_freeNumber_14 : decode cX7_freeNumber 14 = .ok (.getfield 163, 3) := by decide +kernel
theorem dX7_freeNumber_17 : decode cX7_freeNumber 17 = .ok (.ifCond .ne 5, 3) := by decide +kernel
theorem dX7_freeNumber_20 : decode cX7_freeNumber 20 = .ok (.iload_n 1, 1) := by decide +kernel
theorem dX7_freeNumber_21 : decode cX7_freeNumber 21 = .ok (.ireturn, 1) := by decide +kernel
theorem dX7_freeNumber_22 : decode cX7_freeNumber 22 = .ok (.iinc 1 1, 3) := by decide +kernel
theorem dX7_freeNumber_25 : decode cX7_freeNumber 25 = .ok (.goto (-23), 3) := by decide +kernel
theorem dX7_freeNumber_28 : decode cX7_freeNumber 28 = .ok (.iconst (-1), 1) := by decide +kernel
theorem dX7_freeNumber_29 : decode cX7_freeNumber 29 = .ok (.ireturn, 1) := by decide +kernel
theorem dX7_endStaleSessions_0 : decode cX7_endStaleSessions 0 = .ok (.iconst 0, 1) := by decide +kernel
theorem dX7_endStaleSessions_1 : decode cX7_endStaleSessions 1 = .ok (.istore_n 1, 1) := by decide +kernel
theorem dX7_endStaleSessions_2 : decode cX7_endStaleSessions 2 = .ok (.iload_n 1, 1) := by decide +kernel
theorem dX7_endStaleSessions_3 : decode cX7_endStaleSessions 3 = .ok (.bipush 8, 2) := by decide +kernel
theorem dX7_endStaleSessions_5 : decode cX7_endStaleSessions 5 = .ok (.if_icmp .ge 45, 3) := by decide +kernel
theorem dX7_endStaleSessions_8 : decode cX7_endStaleSessions 8 = .ok (.aload_n 0, 1) := by decide +kernel
theorem dX7_endStaleSessions_9 : decode cX7_endStaleSessions 9 = .ok (.aload_n 0, 1) := by decide +kernel
theorem dX7_endStaleSessions_10 : decode cX7_endStaleSessions 10 = .ok (.getfield 44, 3) := by decide +kernel
theorem dX7_endStaleSessions_13 : decode cX7_endStaleSessions 13 = .ok (.iload_n 1, 1) := by decide +kernel
theorem dX7_endStaleSessions_14 : decode cX7_endStaleSessions 14 = .ok (.aaload, 1) := by decide +kernel
theorem dX7_endStaleSessions_15 : decode cX7_endStaleSessions 15 = .ok (.invokevirtual 224, 3) := by decide +kernel
theorem dX7_endStaleSessions_18 : decode cX7_endStaleSessions 18 = .ok (.ifCond .ne 16, 3) := by decide +kernel
theorem dX7_endStaleSessions_21 : decode cX7_endStaleSessions 21 = .ok (.aload_n 0, 1) := by decide +kernel
theorem dX7_endStaleSessions_22 : decode cX7_endStaleSessions 22 = .ok (.aload_n 0, 1) := by decide +kernel
theorem dX7_endStaleSessions_23 : decode cX7_endStaleSessions 23 = .ok (.getfield 44, 3) := by decide +kernel
theorem dX7_endStaleSessions_26 : decode cX7_endStaleSessions 26 = .ok (.iload_n 1, 1) := by decide +kernel
theorem dX7_endStaleSessions_27 : decode cX7_endStaleSessions 27 = .ok (.aaload, 1) := by decide +kernel
theorem dX7_endStaleSessions_28 : decode cX7_endStaleSessions 28 = .ok (.invokevirtual 228, 3) := by decide +kernel
theorem dX7_endStaleSessions_31 : decode cX7_endStaleSessions 31 = .ok (.ifCond .eq 13, 3) := by decide +kernel
theorem dX7_endStaleSessions_34 : decode cX7_endStaleSessions 34 = .ok (.aload_n 0, 1) := by decide +kernel
theorem dX7_endStaleSessions_35 : decode cX7_endStaleSessions 35 = .ok (.getfield 44, 3) := by decide +kernel
theorem dX7_endStaleSessions_38 : decode cX7_endStaleSessions 38 = .ok (.iload_n 1, 1) := by decide +kernel
theorem dX7_endStaleSessions_39 : decode cX7_endStaleSessions 39 = .ok (.aaload, 1) := by decide +kernel
theorem dX7_endStaleSessions_40 : decode cX7_endStaleSessions 40 = .ok (.iconst 0, 1) := by decide +kernel
theorem dX7_endStaleSessions_41 : decode cX7_endStaleSessions 41 = .ok (.putfield 163, 3) := by decide +kernel
theorem dX7_endStaleSessions_44 : decode cX7_endStaleSessions 44 = .ok (.iinc 1 1, 3) := by decide +kernel
theorem dX7_endStaleSessions_47 : decode cX7_endStaleSessions 47 = .ok (.goto (-45), 3) := by decide +kernel
theorem dX7_endStaleSessions_50 : decode cX7_endStaleSessions 50 = .ok (.return_, 1) := by decide +kernel
theorem dX7_isOld_0 : decode cX7_isOld 0 = .ok (.aload_n 0, 1) := by decide +kernel
theorem dX7_isOld_1 : decode cX7_isOld 1 = .ok (.getfield 61, 3) := by decide +kernel
theorem dX7_isOld_4 : decode cX7_isOld 4 = .ok (.aload_n 1, 1) := by decide +kernel
theorem dX7_isOld_5 : decode cX7_isOld 5 = .ok (.getfield 204, 3) := by decide +kernel
theorem dX7_isOld_8 : decode cX7_isOld 8 = .ok (.lsub, 1) := by decide +kernel
theorem dX7_isOld_9 : decode cX7_isOld 9 = .ok (.aload_n 0, 1) := by decide +kernel
theorem dX7_isOld_10 : decode cX7_isOld 10 = .ok (.getfield 70, 3) := by decide +kernel
theorem dX7_isOld_13 : decode cX7_isOld 13 = .ok (.lcmp, 1) := by decide +kernel
theorem dX7_isOld_14 : decode cX7_isOld 14 = .ok (.ifCond .lt 7, 3) := by decide +kernel
theorem dX7_isOld_17 : decode cX7_isOld 17 = .ok (.iconst 1, 1) := by decide +kernel
theorem dX7_isOld_18 : decode cX7_isOld 18 = .ok (.goto 4, 3) := by decide +kernel
theorem dX7_isOld_21 : decode cX7_isOld 21 = .ok (.iconst 0, 1) := by decide +kernel
theorem dX7_isOld_22 : decode cX7_isOld 22 = .ok (.ireturn, 1) := by decide +kernel
theorem dX7_isIdle_0 : decode cX7_isIdle 0 = .ok (.aload_n 0, 1) := by decide +kernel
theorem dX7_isIdle_1 : decode cX7_isIdle 1 = .ok (.getfield 61, 3) := by decide +kernel
theorem dX7_isIdle_4 : decode cX7_isIdle 4 = .ok (.aload_n 1, 1) := by decide +kernel
theorem dX7_isIdle_5 : decode cX7_isIdle 5 = .ok (.getfield 160, 3) := by decide +kernel
theorem dX7_isIdle_8 : decode cX7_isIdle 8 = .ok (.lsub, 1) := by decide +kernel
theorem dX7_isIdle_9 : decode cX7_isIdle 9 = .ok (.aload_n 0, 1) := by decide +kernel
theorem dX7_isIdle_10 : decode cX7_isIdle 10 = .ok (.getfield 73, 3) := by decide +kernel
theorem dX7_isIdle_13 : decode cX7_isIdle 13 = .ok (.lcmp, 1) := by decide +kernel
theorem dX7_isIdle_14 : decode cX7_isIdle 14 = .ok (.ifCond .lt 7, 3) := by decide +kernel
theorem dX7_isIdle_17 : decode cX7_isIdle 17 = .ok (.iconst 1, 1) := by decide +kernel
theorem dX7_isIdle_18 : decode cX7_isIdle 18 = .ok (.goto 4, 3) := by decide +kernel
theorem dX7_isIdle_21 : decode cX7_isIdle 21 = .ok (.iconst 0, 1) := by decide +kernel
theorem dX7_isIdle_22 : decode cX7_isIdle 22 = .ok (.ireturn, 1) := by decide +kernel
theorem dX7_nextId_0 : decode cX7_nextId 0 = .ok (.aload_n 0, 1) := by decide +kernel
theorem dX7_nextId_1 : decode cX7_nextId 1 = .ok (.getfield 76, 3) := by decide +kernel
theorem dX7_nextId_4 : decode cX7_nextId 4 = .ok (.i2l, 1) := by decide +kernel
theorem dX7_nextId_5 : decode cX7_nextId 5 = .ok (.aload_n 0, 1) := by decide +kernel
theorem dX7_nextId_6 : decode cX7_nextId 6 = .ok (.getfield 52, 3) := by decide +kernel
theorem dX7_nextId_9 : decode cX7_nextId 9 = .ok (.iconst 0, 1) := by decide +kernel
theorem dX7_nextId_10 : decode cX7_nextId 10 = .ok (.invokestatic 91, 3) := by decide +kernel
theorem dX7_nextId_13 : decode cX7_nextId 13 = .ok (.aload_n 0, 1) := by decide +kernel
theorem dX7_nextId_14 : decode cX7_nextId 14 = .ok (.getfield 10, 3) := by decide +kernel
theorem dX7_nextId_17 : decode cX7_nextId 17 = .ok (.aload_n 0, 1) := by decide +kernel
theorem dX7_nextId_18 : decode cX7_nextId 18 = .ok (.getfield 48, 3) := by decide +kernel
theorem dX7_nextId_21 : decode cX7_nextId 21 = .ok (.aload_n 0, 1) := by decide +kernel
theorem dX7_nextId_22 : decode cX7_nextId 22 = .ok (.getfield 52, 3) := by decide +kernel
theorem dX7_nextId_25 : decode cX7_nextId 25 = .ok (.bipush 8, 2) := by decide +kernel
theorem dX7_nextId_27 : decode cX7_nextId 27 = .ok (.invokevirtual 217, 3) := by decide +kernel
theorem dX7_nextId_30 : decode cX7_nextId 30 = .ok (.aload_n 0, 1) := by decide +kernel
theorem dX7_nextId_31 : decode cX7_nextId 31 = .ok (.getfield 10, 3) := by decide +kernel
theorem dX7_nextId_34 : decode cX7_nextId 34 = .ok (.getfield 221, 3) := by decide +kernel
theorem dX7_nextId_37 : decode cX7_nextId 37 = .ok (.iconst 0, 1) := by decide +kernel
theorem dX7_nextId_38 : decode cX7_nextId 38 = .ok (.invokestatic 231, 3) := by decide +kernel
theorem dX7_nextId_41 : decode cX7_nextId 41 = .ok (.lreturn, 1) := by decide +kernel
theorem dX7_judge_0 : decode cX7_judge 0 = .ok (.aload_n 0, 1) := by decide +kernel
theorem dX7_judge_1 : decode cX7_judge 1 = .ok (.getfield 26, 3) := by decide +kernel
theorem dX7_judge_4 : decode cX7_judge 4 = .ok (.aload_n 0, 1) := by decide +kernel
theorem dX7_judge_5 : decode cX7_judge 5 = .ok (.getfield 55, 3) := by decide +kernel
theorem dX7_judge_8 : decode cX7_judge 8 = .ok (.invokestatic 235, 3) := by decide +kernel
theorem dX7_judge_11 : decode cX7_judge 11 = .ok (.ifCond .ne 6, 3) := by decide +kernel
theorem dX7_judge_14 : decode cX7_judge 14 = .ok (.bipush (-2), 2) := by decide +kernel
theorem dX7_judge_16 : decode cX7_judge 16 = .ok (.ireturn, 1) := by decide +kernel
theorem dX7_judge_17 : decode cX7_judge 17 = .ok (.aload_n 0, 1) := by decide +kernel
theorem dX7_judge_18 : decode cX7_judge 18 = .ok (.getfield 19, 3) := by decide +kernel
theorem dX7_judge_21 : decode cX7_judge 21 = .ok (.aload_n 0, 1) := by decide +kernel
theorem dX7_judge_22 : decode cX7_judge 22 = .ok (.getfield 55, 3) := by decide +kernel
theorem dX7_judge_25 : decode cX7_judge 25 = .ok (.iconst 0, 1) := by decide +kernel
theorem dX7_judge_26 : decode cX7_judge 26 = .ok (.iaload, 1) := by decide +kernel
theorem dX7_judge_27 : decode cX7_judge 27 = .ok (.aload_n 0, 1) := by decide +kernel
theorem dX7_judge_28 : decode cX7_judge 28 = .ok (.getfield 61, 3) := by decide +kernel
theorem dX7_judge_31 : decode cX7_judge 31 = .ok (.aload_n 0, 1) := by decide +kernel
theorem dX7_judge_32 : decode cX7_judge 32 = .ok (.getfield 67, 3) := by decide +kernel
theorem dX7_judge_35 : decode cX7_judge 35 = .ok (.invokevirtual 241, 3) := by decide +kernel
theorem dX7_judge_38 : decode cX7_judge 38 = .ok (.astore_n 2, 1) := by decide +kernel
theorem dX7_judge_39 : decode cX7_judge 39 = .ok (.aload_n 2, 1) := by decide +kernel
theorem dX7_judge_40 : decode cX7_judge 40 = .ok (.ifnonnull 6, 3) := by decide +kernel
theorem dX7_judge_43 : decode cX7_judge 43 = .ok (.bipush (-3), 2) := by decide +kernel
theorem dX7_judge_45 : decode cX7_judge 45 = .ok (.ireturn, 1) := by decide +kernel
theorem dX7_judge_46 : decode cX7_judge 46 = .ok (.aload_n 0, 1) := by decide +kernel
theorem dX7_judge_47 : decode cX7_judge 47 = .ok (.aload_n 2, 1) := by decide +kernel
theorem dX7_judge_48 : decode cX7_judge 48 = .ok (.invokevirtual 245, 3) := by decide +kernel
theorem dX7_judge_51 : decode cX7_judge 51 = .ok (.ifCond .ne 6, 3) := by decide +kernel
theorem dX7_judge_54 : decode cX7_judge 54 = .ok (.bipush (-4), 2) := by decide +kernel
theorem dX7_judge_56 : decode cX7_judge 56 = .ok (.ireturn, 1) := by decide +kernel
theorem dX7_judge_57 : decode cX7_judge 57 = .ok (.aload_n 0, 1) := by decide +kernel
theorem dX7_judge_58 : decode cX7_judge 58 = .ok (.aload_n 0, 1) := by decide +kernel
theorem dX7_judge_59 : decode cX7_judge 59 = .ok (.getfield 55, 3) := by decide +kernel
theorem dX7_judge_62 : decode cX7_judge 62 = .ok (.iconst 1, 1) := by decide +kernel
theorem dX7_judge_63 : decode cX7_judge 63 = .ok (.iaload, 1) := by decide +kernel
theorem dX7_judge_64 : decode cX7_judge 64 = .ok (.aload_n 0, 1) := by decide +kernel
theorem dX7_judge_65 : decode cX7_judge 65 = .ok (.getfield 55, 3) := by decide +kernel
theorem dX7_judge_68 : decode cX7_judge 68 = .ok (.iconst 2, 1) := by decide +kernel
theorem dX7_judge_69 : decode cX7_judge 69 = .ok (.invokestatic 231, 3) := by decide +kernel
theorem dX7_judge_72 : decode cX7_judge 72 = .ok (.invokevirtual 249, 3) := by decide +kernel
theorem dX7_judge_75 : decode cX7_judge 75 = .ok (.istore_n 3, 1) := by decide +kernel
theorem dX7_judge_76 : decode cX7_judge 76 = .ok (.iload_n 3, 1) := by decide +kernel
theorem dX7_judge_77 : decode cX7_judge 77 = .ok (.iconst (-1), 1) := by decide +kernel
theorem dX7_judge_78 : decode cX7_judge 78 = .ok (.if_icmp .ne 6, 3) := by decide +kernel
theorem dX7_judge_81 : decode cX7_judge 81 = .ok (.bipush (-5), 2) := by decide +kernel
theorem dX7_judge_83 : decode cX7_judge 83 = .ok (.ireturn, 1) := by decide +kernel
theorem dX7_judge_84 : decode cX7_judge 84 = .ok (.aload_n 0, 1) := by decide +kernel
theorem dX7_judge_85 : decode cX7_judge 85 = .ok (.aload_n 0, 1) := by decide +kernel
theorem dX7_judge_86 : decode cX7_judge 86 = .ok (.getfield 44, 3) := by decide +kernel
theorem dX7_judge_89 : decode cX7_judge 89 = .ok (.iload_n 3, 1) := by decide +kernel
theorem dX7_judge_90 : decode cX7_judge 90 = .ok (.aaload, 1) := by decide +kernel
theorem dX7_judge_91 : decode cX7_judge 91 = .ok (.invokevirtual 224, 3) := by decide +kernel
theorem dX7_judge_94 : decode cX7_judge 94 = .ok (.ifCond .eq 16, 3) := by decide +kernel
theorem dX7_judge_97 : decode cX7_judge 97 = .ok (.aload_n 0, 1) := by decide +kernel
theorem dX7_judge_98 : decode cX7_judge 98 = .ok (.getfield 44, 3) := by decide +kernel
theorem dX7_judge_101 : decode cX7_judge 101 = .ok (.iload_n 3, 1) := by decide +kernel
theorem dX7_judge_102 : decode cX7_judge 102 = .ok (.aaload, 1) := by decide +kernel
theorem dX7_judge_103 : decode cX7_judge 103 = .ok (.iconst 0, 1) := by decide +kernel
theorem dX7_judge_104 : decode cX7_judge 104 = .ok (.putfield 163, 3) := by decide +kernel
theorem dX7_judge_107 : decode cX7_judge 107 = .ok (.bipush (-6), 2) := by decide +kernel
theorem dX7_judge_109 : decode cX7_judge 109 = .ok (.ireturn, 1) := by decide +kernel
theorem dX7_judge_110 : decode cX7_judge 110 = .ok (.aload_n 0, 1) := by decide +kernel
theorem dX7_judge_111 : decode cX7_judge 111 = .ok (.aload_n 0, 1) := by decide +kernel
theorem dX7_judge_112 : decode cX7_judge 112 = .ok (.getfield 44, 3) := by decide +kernel
theorem dX7_judge_115 : decode cX7_judge 115 = .ok (.iload_n 3, 1) := by decide +kernel
theorem dX7_judge_116 : decode cX7_judge 116 = .ok (.aaload, 1) := by decide +kernel
theorem dX7_judge_117 : decode cX7_judge 117 = .ok (.invokevirtual 228, 3) := by decide +kernel
theorem dX7_judge_120 : decode cX7_judge 120 = .ok (.ifCond .eq 16, 3) := by decide +kernel
theorem dX7_judge_123 : decode cX7_judge 123 = .ok (.aload_n 0, 1) := by decide +kernel
theorem dX7_judge_124 : decode cX7_judge 124 = .ok (.getfield 44, 3) := by decide +kernel
theorem dX7_judge_127 : decode cX7_judge 127 = .ok (.iload_n 3, 1) := by decide +kernel
theorem dX7_judge_128 : decode cX7_judge 128 = .ok (.aaload, 1) := by decide +kernel
theorem dX7_judge_129 : decode cX7_judge 129 = .ok (.iconst 0, 1) := by decide +kernel
theorem dX7_judge_130 : decode cX7_judge 130 = .ok (.putfield 163, 3) := by decide +kernel
theorem dX7_judge_133 : decode cX7_judge 133 = .ok (.bipush (-7), 2) := by decide +kernel
theorem dX7_judge_135 : decode cX7_judge 135 = .ok (.ireturn, 1) := by decide +kernel
theorem dX7_judge_136 : decode cX7_judge 136 = .ok (.iload_n 1, 1) := by decide +kernel
theorem dX7_judge_137 : decode cX7_judge 137 = .ok (.ifCond .eq 33, 3) := by decide +kernel
theorem dX7_judge_140 : decode cX7_judge 140 = .ok (.aload_n 0, 1) := by decide +kernel
theorem dX7_judge_141 : decode cX7_judge 141 = .ok (.aload_n 2, 1) := by decide +kernel
theorem dX7_judge_142 : decode cX7_judge 142 = .ok (.aload_n 0, 1) := by decide +kernel
theorem dX7_judge_143 : decode cX7_judge 143 = .ok (.getfield 33, 3) := by decide +kernel
theorem dX7_judge_146 : decode cX7_judge 146 = .ok (.invokevirtual 253, 3) := by decide +kernel
theorem dX7_judge_149 : decode cX7_judge 149 = .ok (.aload_n 0, 1) := by decide +kernel
theorem dX7_judge_150 : decode cX7_judge 150 = .ok (.getfield 30, 3) := by decide +kernel
theorem dX7_judge_153 : decode cX7_judge 153 = .ok (.aload_n 0, 1) := by decide +kernel
theorem dX7_judge_154 : decode cX7_judge 154 = .ok (.getfield 33, 3) := by decide +kernel
theorem dX7_judge_157 : decode cX7_judge 157 = .ok (.invokevirtual 257, 3) := by decide +kernel
theorem dX7_judge_160 : decode cX7_judge 160 = .ok (.ifCond .eq 7, 3) := by decide +kernel
theorem dX7_judge_163 : decode cX7_judge 163 = .ok (.iload_n 3, 1) := by decide +kernel
theorem dX7_judge_164 : decode cX7_judge 164 = .ok (.goto 5, 3) := by decide +kernel
theorem dX7_judge_167 : decode cX7_judge 167 = .ok (.bipush (-8), 2) := by decide +kernel
theorem dX7_judge_169 : decode cX7_judge 169 = .ok (.ireturn, 1) := by decide +kernel
theorem dX7_judge_170 : decode cX7_judge 170 = .ok (.iload_n 3, 1) := by decide +kernel
theorem dX7_judge_171 : decode cX7_judge 171 = .ok (.ireturn, 1) := by decide +kernel
theorem dX7_isSealedBy_0 : decode cX7_isSealedBy 0 = .ok (.aload_n 0, 1) := by decide +kernel
theorem dX7_isSealedBy_1 : decode cX7_isSealedBy 1 = .ok (.getfield 10, 3) := by decide +kernel
theorem dX7_isSealedBy_4 : decode cX7_isSealedBy 4 = .ok (.aload_n 1, 1) := by decide +kernel
theorem dX7_isSealedBy_5 : decode cX7_isSealedBy 5 = .ok (.getfield 214, 3) := by decide +kernel
theorem dX7_isSealedBy_8 : decode cX7_isSealedBy 8 = .ok (.aload_n 0, 1) := by decide +kernel
theorem dX7_isSealedBy_9 : decode cX7_isSealedBy 9 = .ok (.getfield 55, 3) := by decide +kernel
theorem dX7_isSealedBy_12 : decode cX7_isSealedBy 12 = .ok (.bipush 10, 2) := by decide +kernel
theorem dX7_isSealedBy_14 : decode cX7_isSealedBy 14 = .ok (.invokevirtual 217, 3) := by decide +kernel
theorem dX7_isSealedBy_17 : decode cX7_isSealedBy 17 = .ok (.iconst 0, 1) := by decide +kernel
theorem dX7_isSealedBy_18 : decode cX7_isSealedBy 18 = .ok (.istore_n 2, 1) := by decide +kernel
theorem dX7_isSealedBy_19 : decode cX7_isSealedBy 19 = .ok (.iload_n 2, 1) := by decide +kernel
theorem dX7_isSealedBy_20 : decode cX7_isSealedBy 20 = .ok (.bipush 12, 2) := by decide +kernel
theorem dX7_isSealedBy_22 : decode cX7_isSealedBy 22 = .ok (.if_icmp .ge 32, 3) := by decide +kernel
theorem dX7_isSealedBy_25 : decode cX7_isSealedBy 25 = .ok (.aload_n 0, 1) := by decide +kernel
theorem dX7_isSealedBy_26 : decode cX7_isSealedBy 26 = .ok (.getfield 55, 3) := by decide +kernel
theorem dX7_isSealedBy_29 : decode cX7_isSealedBy 29 = .ok (.bipush 10, 2) := by decide +kernel
theorem dX7_isSealedBy_31 : decode cX7_isSealedBy 31 = .ok (.iload_n 2, 1) := by decide +kernel
theorem dX7_isSealedBy_32 : decode cX7_isSealedBy 32 = .ok (.iadd, 1) := by decide +kernel
theorem dX7_isSealedBy_33 : decode cX7_isSealedBy 33 = .ok (.iaload, 1) := by decide +kernel
theorem dX7_isSealedBy_34 : decode cX7_isSealedBy 34 = .ok (.aload_n 0, 1) := by decide +kernel
theorem dX7_isSealedBy_35 : decode cX7_isSealedBy 35 = .ok (.getfield 10, 3) := by decide +kernel
theorem dX7_isSealedBy_38 : decode cX7_isSealedBy 38 = .ok (.getfield 221, 3) := by decide +kernel
theorem dX7_isSealedBy_41 : decode cX7_isSealedBy 41 = .ok (.iload_n 2, 1) := by decide +kernel
theorem dX7_isSealedBy_42 : decode cX7_isSealedBy 42 = .ok (.iaload, 1) := by decide +kernel
theorem dX7_isSealedBy_43 : decode cX7_isSealedBy 43 = .ok (.if_icmp .eq 5, 3) := by decide +kernel
theorem dX7_isSealedBy_46 : decode cX7_isSealedBy 46 = .ok (.iconst 0, 1) := by decide +kernel
theorem dX7_isSealedBy_47 : decode cX7_isSealedBy 47 = .ok (.ireturn, 1) := by decide +kernel
theorem dX7_isSealedBy_48 : decode cX7_isSealedBy 48 = .ok (.iinc 2 1, 3) := by decide +kernel
theorem dX7_isSealedBy_51 : decode cX7_isSealedBy 51 = .ok (.goto (-32), 3) := by decide +kernel
theorem dX7_isSealedBy_54 : decode cX7_isSealedBy 54 = .ok (.iconst 1, 1) := by decide +kernel
theorem dX7_isSealedBy_55 : decode cX7_isSealedBy 55 = .ok (.ireturn, 1) := by decide +kernel
theorem dX7_numberOf_0 : decode cX7_numberOf 0 = .ok (.iconst 0, 1) := by decide +kernel
theorem dX7_numberOf_1 : decode cX7_numberOf 1 = .ok (.istore 4, 2) := by decide +kernel
theorem dX7_numberOf_3 : decode cX7_numberOf 3 = .ok (.iload 4, 2) := by decide +kernel
theorem dX7_numberOf_5 : decode cX7_numberOf 5 = .ok (.bipush 8, 2) := by decide +kernel
theorem dX7_numberOf_7 : decode cX7_numberOf 7 = .ok (.if_icmp .ge 54, 3) := by decide +kernel
theorem dX7_numberOf_10 : decode cX7_numberOf 10 = .ok (.aload_n 0, 1) := by decide +kernel
theorem dX7_numberOf_11 : decode cX7_numberOf 11 = .ok (.getfield 44, 3) := by decide +kernel
theorem dX7_numberOf_14 : decode cX7_numberOf 14 = .ok (.iload 4, 2) := by decide +kernel
theorem dX7_numberOf_16 : decode cX7_numberOf 16 = .ok (.aaload, 1) := by decide +kernel
theorem dX7_numberOf_17 : decode cX7_numberOf 17 = .ok (.getfield 163, 3) := by decide +kernel
theorem dX7_numberOf_20 : decode cX7_numberOf 20 = .ok (.ifCond .eq 35, 3) := by decide +kernel
theorem dX7_numberOf_23 : decode cX7_numberOf 23 = .ok (.aload_n 0, 1) := by decide +kernel
theorem dX7_numberOf_24 : decode cX7_numberOf 24 = .ok (.getfield 44, 3) := by decide +kernel
theorem dX7_numberOf_27 : decode cX7_numberOf 27 = .ok (.iload 4, 2) := by decide +kernel
theorem dX7_numberOf_29 : decode cX7_numberOf 29 = .ok (.aaload, 1) := by decide +kernel
theorem dX7_numberOf_30 : decode cX7_numberOf 30 = .ok (.getfield 167, 3) := by decide +kernel
theorem dX7_numberOf_33 : decode cX7_numberOf 33 = .ok (.iload_n 1, 1) := by decide +kernel
theorem dX7_numberOf_34 : decode cX7_numberOf 34 = .ok (.if_icmp .ne 21, 3) := by decide +kernel
theorem dX7_numberOf_37 : decode cX7_numberOf 37 = .ok (.aload_n 0, 1) := by decide +kernel
theorem dX7_numberOf_38 : decode cX7_numberOf 38 = .ok (.getfield 44, 3) := by decide +kernel
theorem dX7_numberOf_41 : decode cX7_numberOf 41 = .ok (.iload 4, 2) := by decide +kernel
theorem dX7_numberOf_43 : decode cX7_numberOf 43 = .ok (.aaload, 1) := by decide +kernel
theorem dX7_numberOf_44 : decode cX7_numberOf 44 = .ok (.getfield 201, 3) := by decide +kernel
theorem dX7_numberOf_47 : decode cX7_numberOf 47 = .ok (.lload_n 2, 1) := by decide +kernel
theorem dX7_numberOf_48 : decode cX7_numberOf 48 = .ok (.lcmp, 1) := by decide +kernel
theorem dX7_numberOf_49 : decode cX7_numberOf 49 = .ok (.ifCond .ne 6, 3) := by decide +kernel
theorem dX7_numberOf_52 : decode cX7_numberOf 52 = .ok (.iload 4, 2) := by decide +kernel
theorem dX7_numberOf_54 : decode cX7_numberOf 54 = .ok (.ireturn, 1) := by decide +kernel
theorem dX7_numberOf_55 : decode cX7_numberOf 55 = .ok (.iinc 4 1, 3) := by decide +kernel
theorem dX7_numberOf_58 : decode cX7_numberOf 58 = .ok (.goto (-55), 3) := by decide +kernel
theorem dX7_numberOf_61 : decode cX7_numberOf 61 = .ok (.iconst (-1), 1) := by decide +kernel
theorem dX7_numberOf_62 : decode cX7_numberOf 62 = .ok (.ireturn, 1) := by decide +kernel
theorem dX7_tally_0 : decode cX7_tally 0 = .ok (.iload_n 1, 1) := by decide +kernel
theorem dX7_tally_1 : decode cX7_tally 1 = .ok (.ifCond .lt 16, 3) := by decide +kernel
theorem dX7_tally_4 : decode cX7_tally 4 = .ok (.aload_n 0, 1) := by decide +kernel
theorem dX7_tally_5 : decode cX7_tally 5 = .ok (.dup, 1) := by decide +kernel
theorem dX7_tally_6 : decode cX7_tally 6 = .ok (.getfield 80, 3) := by decide +kernel
theorem dX7_tally_9 : decode cX7_tally 9 = .ok (.iconst 1, 1) := by decide +kernel
theorem dX7_tally_10 : decode cX7_tally 10 = .ok (.iadd, 1) := by decide +kernel
theorem dX7_tally_11 : decode cX7_tally 11 = .ok (.putfield 80, 3) := by decide +kernel
theorem dX7_tally_14 : decode cX7_tally 14 = .ok (.goto 13, 3) := by decide +kernel
theorem dX7_tally_17 : decode cX7_tally 17 = .ok (.aload_n 0, 1) := by decide +kernel
theorem dX7_tally_18 : decode cX7_tally 18 = .ok (.dup, 1) := by decide +kernel
theorem dX7_tally_19 : decode cX7_tally 19 = .ok (.getfield 83, 3) := by decide +kernel
theorem dX7_tally_22 : decode cX7_tally 22 = .ok (.iconst 1, 1) := by decide +kernel
theorem dX7_tally_23 : decode cX7_tally 23 = .ok (.iadd, 1) := by decide +kernel
theorem dX7_tally_24 : decode cX7_tally 24 = .ok (.putfield 83, 3) := by decide +kernel
theorem dX7_tally_27 : decode cX7_tally 27 = .ok (.return_, 1) := by decide +kernel
theorem dX7_writeTexts_0 : decode cX7_writeTexts 0 = .ok (.aload_n 0, 1) := by decide +kernel
theorem dX7_writeTexts_1 : decode cX7_writeTexts 1 = .ok (.getfield 19, 3) := by decide +kernel
theorem dX7_writeTexts_4 : decode cX7_writeTexts 4 = .ok (.invokevirtual 108, 3) := by decide +kernel
theorem dX7_writeTexts_7 : decode cX7_writeTexts 7 = .ok (.astore_n 2, 1) := by decide +kernel
theorem dX7_writeTexts_8 : decode cX7_writeTexts 8 = .ok (.aload_n 0, 1) := by decide +kernel
theorem dX7_writeTexts_9 : decode cX7_writeTexts 9 = .ok (.getfield 55, 3) := by decide +kernel
theorem dX7_writeTexts_12 : decode cX7_writeTexts 12 = .ok (.iconst 0, 1) := by decide +kernel
theorem dX7_writeTexts_13 : decode cX7_writeTexts 13 = .ok (.aload_n 2, 1) := by decide +kernel
theorem dX7_writeTexts_14 : decode cX7_writeTexts 14 = .ok (.getfield 118, 3) := by decide +kernel
theorem dX7_writeTexts_17 : decode cX7_writeTexts 17 = .ok (.iastore, 1) := by decide +kernel
theorem dX7_writeTexts_18 : decode cX7_writeTexts 18 = .ok (.aload_n 0, 1) := by decide +kernel
theorem dX7_writeTexts_19 : decode cX7_writeTexts 19 = .ok (.getfield 55, 3) := by decide +kernel
theorem dX7_writeTexts_22 : decode cX7_writeTexts 22 = .ok (.iconst 1, 1) := by decide +kernel
theorem dX7_writeTexts_23 : decode cX7_writeTexts 23 = .ok (.aload_n 1, 1) := by decide +kernel
theorem dX7_writeTexts_24 : decode cX7_writeTexts 24 = .ok (.getfield 167, 3) := by decide +kernel
theorem dX7_writeTexts_27 : decode cX7_writeTexts 27 = .ok (.iastore, 1) := by decide +kernel
theorem dX7_writeTexts_28 : decode cX7_writeTexts 28 = .ok (.aload_n 1, 1) := by decide +kernel
theorem dX7_writeTexts_29 : decode cX7_writeTexts 29 = .ok (.getfield 201, 3) := by decide +kernel
theorem dX7_writeTexts_32 : decode cX7_writeTexts 32 = .ok (.aload_n 0, 1) := by decide +kernel
theorem dX7_writeTexts_33 : decode cX7_writeTexts 33 = .ok (.getfield 55, 3) := by decide +kernel
theorem dX7_writeTexts_36 : decode cX7_writeTexts 36 = .ok (.iconst 2, 1) := by decide +kernel
theorem dX7_writeTexts_37 : decode cX7_writeTexts 37 = .ok (.invokestatic 91, 3) := by decide +kernel
theorem dX7_writeTexts_40 : decode cX7_writeTexts 40 = .ok (.aload_n 0, 1) := by decide +kernel
theorem dX7_writeTexts_41 : decode cX7_writeTexts 41 = .ok (.getfield 10, 3) := by decide +kernel
theorem dX7_writeTexts_44 : decode cX7_writeTexts 44 = .ok (.aload_n 2, 1) := by decide +kernel
theorem dX7_writeTexts_45 : decode cX7_writeTexts 45 = .ok (.getfield 214, 3) := by decide +kernel
theorem dX7_writeTexts_48 : decode cX7_writeTexts 48 = .ok (.aload_n 0, 1) := by decide +kernel
theorem dX7_writeTexts_49 : decode cX7_writeTexts 49 = .ok (.getfield 55, 3) := by decide +kernel
theorem dX7_writeTexts_52 : decode cX7_writeTexts 52 = .ok (.bipush 10, 2) := by decide +kernel
theorem dX7_writeTexts_54 : decode cX7_writeTexts 54 = .ok (.invokevirtual 217, 3) := by decide +kernel
theorem dX7_writeTexts_57 : decode cX7_writeTexts 57 = .ok (.aload_n 0, 1) := by decide +kernel
theorem dX7_writeTexts_58 : decode cX7_writeTexts 58 = .ok (.getfield 10, 3) := by decide +kernel
theorem dX7_writeTexts_61 : decode cX7_writeTexts 61 = .ok (.getfield 221, 3) := by decide +kernel
theorem dX7_writeTexts_64 : decode cX7_writeTexts 64 = .ok (.iconst 0, 1) := by decide +kernel
theorem dX7_writeTexts_65 : decode cX7_writeTexts 65 = .ok (.aload_n 0, 1) := by decide +kernel
theorem dX7_writeTexts_66 : decode cX7_writeTexts 66 = .ok (.getfield 55, 3) := by decide +kernel
theorem dX7_writeTexts_69 : decode cX7_writeTexts 69 = .ok (.bipush 10, 2) := by decide +kernel
theorem dX7_writeTexts_71 : decode cX7_writeTexts 71 = .ok (.bipush 12, 2) := by decide +kernel
theorem dX7_writeTexts_73 : decode cX7_writeTexts 73 = .ok (.invokestatic 261, 3) := by decide +kernel
theorem dX7_writeTexts_76 : decode cX7_writeTexts 76 = .ok (.aload_n 0, 1) := by decide +kernel
theorem dX7_writeTexts_77 : decode cX7_writeTexts 77 = .ok (.getfield 55, 3) := by decide +kernel
theorem dX7_writeTexts_80 : decode cX7_writeTexts 80 = .ok (.bipush 22, 2) := by decide +kernel
theorem dX7_writeTexts_82 : decode cX7_writeTexts 82 = .ok (.aload_n 0, 1) := by decide +kernel
theorem dX7_writeTexts_83 : decode cX7_writeTexts 83 = .ok (.getfield 26, 3) := by decide +kernel
theorem dX7_writeTexts_86 : decode cX7_writeTexts 86 = .ok (.invokestatic 267, 3) := by decide +kernel
theorem dX7_writeTexts_89 : decode cX7_writeTexts 89 = .ok (.aload_n 0, 1) := by decide +kernel
theorem dX7_writeTexts_90 : decode cX7_writeTexts 90 = .ok (.aload_n 2, 1) := by decide +kernel
theorem dX7_writeTexts_91 : decode cX7_writeTexts 91 = .ok (.aload_n 0, 1) := by decide +kernel
theorem dX7_writeTexts_92 : decode cX7_writeTexts 92 = .ok (.getfield 30, 3) := by decide +kernel
theorem dX7_writeTexts_95 : decode cX7_writeTexts 95 = .ok (.invokevirtual 253, 3) := by decide +kernel
theorem dX7_writeTexts_98 : decode cX7_writeTexts 98 = .ok (.return_, 1) := by decide +kernel
theorem dX7_writeToken_0 : decode cX7_writeToken 0 = .ok (.aload_n 0, 1) := by decide +kernel
theorem dX7_writeToken_1 : decode cX7_writeToken 1 = .ok (.getfield 58, 3) := by decide +kernel
theorem dX7_writeToken_4 : decode cX7_writeToken 4 = .ok (.iconst 0, 1) := by decide +kernel
theorem dX7_writeToken_5 : decode cX7_writeToken 5 = .ok (.bipush 84, 2) := by decide +kernel
theorem dX7_writeToken_7 : decode cX7_writeToken 7 = .ok (.iastore, 1) := by decide +kernel
theorem dX7_writeToken_8 : decode cX7_writeToken 8 = .ok (.aload_n 0, 1) := by decide +kernel
theorem dX7_writeToken_9 : decode cX7_writeToken 9 = .ok (.getfield 55, 3) := by decide +kernel
theorem dX7_writeToken_12 : decode cX7_writeToken 12 = .ok (.iconst 0, 1) := by decide +kernel
theorem dX7_writeToken_13 : decode cX7_writeToken 13 = .ok (.aload_n 0, 1) := by decide +kernel
theorem dX7_writeToken_14 : decode cX7_writeToken 14 = .ok (.getfield 58, 3) := by decide +kernel
theorem dX7_writeToken_17 : decode cX7_writeToken 17 = .ok (.iconst 1, 1) := by decide +kernel
theorem dX7_writeToken_18 : decode cX7_writeToken 18 = .ok (.bipush 10, 2) := by decide +kernel
theorem dX7_writeToken_20 : decode cX7_writeToken 20 = .ok (.invokestatic 261, 3) := by decide +kernel
theorem dX7_writeToken_23 : decode cX7_writeToken 23 = .ok (.aload_n 0, 1) := by decide +kernel
theorem dX7_writeToken_24 : decode cX7_writeToken 24 = .ok (.getfield 10, 3) := by decide +kernel
theorem dX7_writeToken_27 : decode cX7_writeToken 27 = .ok (.aload_n 1, 1) := by decide +kernel
theorem dX7_writeToken_28 : decode cX7_writeToken 28 = .ok (.getfield 214, 3) := by decide +kernel
theorem dX7_writeToken_31 : decode cX7_writeToken 31 = .ok (.aload_n 0, 1) := by decide +kernel
theorem dX7_writeToken_32 : decode cX7_writeToken 32 = .ok (.getfield 58, 3) := by decide +kernel
theorem dX7_writeToken_35 : decode cX7_writeToken 35 = .ok (.bipush 11, 2) := by decide +kernel
theorem dX7_writeToken_37 : decode cX7_writeToken 37 = .ok (.invokevirtual 217, 3) := by decide +kernel
theorem dX7_writeToken_40 : decode cX7_writeToken 40 = .ok (.aload_n 0, 1) := by decide +kernel
theorem dX7_writeToken_41 : decode cX7_writeToken 41 = .ok (.getfield 10, 3) := by decide +kernel
theorem dX7_writeToken_44 : decode cX7_writeToken 44 = .ok (.getfield 221, 3) := by decide +kernel
theorem dX7_writeToken_47 : decode cX7_writeToken 47 = .ok (.bipush 9, 2) := by decide +kernel
theorem dX7_writeToken_49 : decode cX7_writeToken 49 = .ok (.aload_n 2, 1) := by decide +kernel
theorem dX7_writeToken_50 : decode cX7_writeToken 50 = .ok (.invokestatic 267, 3) := by decide +kernel
theorem dX7_writeToken_53 : decode cX7_writeToken 53 = .ok (.return_, 1) := by decide +kernel
theorem dX7_byteOf_0 : decode cX7_byteOf 0 = .ok (.iload_n 0, 1) := by decide +kernel
theorem dX7_byteOf_1 : decode cX7_byteOf 1 = .ok (.bipush 24, 2) := by decide +kernel
theorem dX7_byteOf_3 : decode cX7_byteOf 3 = .ok (.bipush 8, 2) := by decide +kernel
theorem dX7_byteOf_5 : decode cX7_byteOf 5 = .ok (.iload_n 1, 1) := by decide +kernel
theorem dX7_byteOf_6 : decode cX7_byteOf 6 = .ok (.imul, 1) := by decide +kernel
theorem dX7_byteOf_7 : decode cX7_byteOf 7 = .ok (.isub, 1) := by decide +kernel
theorem dX7_byteOf_8 : decode cX7_byteOf 8 = .ok (.iushr, 1) := by decide +kernel
theorem dX7_byteOf_9 : decode cX7_byteOf 9 = .ok (.sipush 255, 3) := by decide +kernel
theorem dX7_byteOf_12 : decode cX7_byteOf 12 = .ok (.iand, 1) := by decide +kernel
theorem dX7_byteOf_13 : decode cX7_byteOf 13 = .ok (.ireturn, 1) := by decide +kernel
theorem dX7_signsIn_0 : decode cX7_signsIn 0 = .ok (.iconst 0, 1) := by decide +kernel
theorem dX7_signsIn_1 : decode cX7_signsIn 1 = .ok (.istore_n 1, 1) := by decide +kernel
theorem dX7_signsIn_2 : decode cX7_signsIn 2 = .ok (.iconst 0, 1) := by decide +kernel
theorem dX7_signsIn_3 : decode cX7_signsIn 3 = .ok (.istore_n 2, 1) := by decide +kernel
theorem dX7_signsIn_4 : decode cX7_signsIn 4 = .ok (.iload_n 2, 1) := by decide +kernel
theorem dX7_signsIn_5 : decode cX7_signsIn 5 = .ok (.iconst 4, 1) := by decide +kernel
theorem dX7_signsIn_6 : decode cX7_signsIn 6 = .ok (.if_icmp .ge 20, 3) := by decide +kernel
theorem dX7_signsIn_9 : decode cX7_signsIn 9 = .ok (.iload_n 0, 1) := by decide +kernel
theorem dX7_signsIn_10 : decode cX7_signsIn 10 = .ok (.iload_n 2, 1) := by decide +kernel
theorem dX7_signsIn_11 : decode cX7_signsIn 11 = .ok (.invokestatic 271, 3) := by decide +kernel
theorem dX7_signsIn_14 : decode cX7_signsIn 14 = .ok (.ifCond .eq 6, 3) := by decide +kernel
theorem dX7_signsIn_17 : decode cX7_signsIn 17 = .ok (.iinc 1 1, 3) := by decide +kernel
theorem dX7_signsIn_20 : decode cX7_signsIn 20 = .ok (.iinc 2 1, 3) := by decide +kernel
theorem dX7_signsIn_23 : decode cX7_signsIn 23 = .ok (.goto (-19), 3) := by decide +kernel
theorem dX7_signsIn_26 : decode cX7_signsIn 26 = .ok (.iload_n 1, 1) := by decide +kernel
theorem dX7_signsIn_27 : decode cX7_signsIn 27 = .ok (.ireturn, 1) := by decide +kernel
theorem dX7_writeLong_0 : decode cX7_writeLong 0 = .ok (.iconst 0, 1) := by decide +kernel
theorem dX7_writeLong_1 : decode cX7_writeLong 1 = .ok (.istore 4, 2) := by decide +kernel
theorem dX7_writeLong_3 : decode cX7_writeLong 3 = .ok (.iload 4, 2) := by decide +kernel
theorem dX7_writeLong_5 : decode cX7_writeLong 5 = .ok (.bipush 8, 2) := by decide +kernel
theorem dX7_writeLong_7 : decode cX7_writeLong 7 = .ok (.if_icmp .ge 30, 3) := by decide +kernel
theorem dX7_writeLong_10 : decode cX7_writeLong 10 = .ok (.aload_n 2, 1) := by decide +kernel
theorem dX7_writeLong_11 : decode cX7_writeLong 11 = .ok (.iload_n 3, 1) := by decide +kernel
theorem dX7_writeLong_12 : decode cX7_writeLong 12 = .ok (.iload 4, 2) := by decide +kernel
theorem dX7_writeLong_14 : decode cX7_writeLong 14 = .ok (.iadd, 1) := by decide +kernel
theorem dX7_writeLong_15 : decode cX7_writeLong 15 = .ok (.lload_n 0, 1) := by decide +kernel
theorem dX7_writeLong_16 : decode cX7_writeLong 16 = .ok (.bipush 56, 2) := by decide +kernel
theorem dX7_writeLong_18 : decode cX7_writeLong 18 = .ok (.bipush 8, 2) := by decide +kernel
theorem dX7_writeLong_20 : decode cX7_writeLong 20 = .ok (.iload 4, 2) := by decide +kernel
theorem dX7_writeLong_22 : decode cX7_writeLong 22 = .ok (.imul, 1) := by decide +kernel
theorem dX7_writeLong_23 : decode cX7_writeLong 23 = .ok (.isub, 1) := by decide +kernel
theorem dX7_writeLong_24 : decode cX7_writeLong 24 = .ok (.lushr, 1) := by decide +kernel
theorem dX7_writeLong_25 : decode cX7_writeLong 25 = .ok (.l2i, 1) := by decide +kernel
theorem dX7_writeLong_26 : decode cX7_writeLong 26 = .ok (.sipush 255, 3) := by decide +kernel
theorem dX7_writeLong_29 : decode cX7_writeLong 29 = .ok (.iand, 1) := by decide +kernel
theorem dX7_writeLong_30 : decode cX7_writeLong 30 = .ok (.iastore, 1) := by decide +kernel
theorem dX7_writeLong_31 : decode cX7_writeLong 31 = .ok (.iinc 4 1, 3) := by decide +kernel
theorem dX7_writeLong_34 : decode cX7_writeLong 34 = .ok (.goto (-31), 3) := by decide +kernel
theorem dX7_writeLong_37 : decode cX7_writeLong 37 = .ok (.return_, 1) := by decide +kernel
theorem dX7_readLong_0 : decode cX7_readLong 0 = .ok (.lconst 0, 1) := by decide +kernel
theorem dX7_readLong_1 : decode cX7_readLong 1 = .ok (.lstore_n 2, 1) := by decide +kernel
theorem dX7_readLong_2 : decode cX7_readLong 2 = .ok (.iconst 0, 1) := by decide +kernel
theorem dX7_readLong_3 : decode cX7_readLong 3 = .ok (.istore 4, 2) := by decide +kernel
theorem dX7_readLong_5 : decode cX7_readLong 5 = .ok (.iload 4, 2) := by decide +kernel
theorem dX7_readLong_7 : decode cX7_readLong 7 = .ok (.bipush 8, 2) := by decide +kernel
theorem dX7_readLong_9 : decode cX7_readLong 9 = .ok (.if_icmp .ge 22, 3) := by decide +kernel
theorem dX7_readLong_12 : decode cX7_readLong 12 = .ok (.lload_n 2, 1) := by decide +kernel
theorem dX7_readLong_13 : decode cX7_readLong 13 = .ok (.bipush 8, 2) := by decide +kernel
theorem dX7_readLong_15 : decode cX7_readLong 15 = .ok (.lshl, 1) := by decide +kernel
theorem dX7_readLong_16 : decode cX7_readLong 16 = .ok (.aload_n 0, 1) := by decide +kernel
theorem dX7_readLong_17 : decode cX7_readLong 17 = .ok (.iload_n 1, 1) := by decide +kernel
theorem dX7_readLong_18 : decode cX7_readLong 18 = .ok (.iload 4, 2) := by decide +kernel
theorem dX7_readLong_20 : decode cX7_readLong 20 = .ok (.iadd, 1) := by decide +kernel
theorem dX7_readLong_21 : decode cX7_readLong 21 = .ok (.iaload, 1) := by decide +kernel
theorem dX7_readLong_22 : decode cX7_readLong 22 = .ok (.i2l, 1) := by decide +kernel
theorem dX7_readLong_23 : decode cX7_readLong 23 = .ok (.lor, 1) := by decide +kernel
theorem dX7_readLong_24 : decode cX7_readLong 24 = .ok (.lstore_n 2, 1) := by decide +kernel
theorem dX7_readLong_25 : decode cX7_readLong 25 = .ok (.iinc 4 1, 3) := by decide +kernel
theorem dX7_readLong_28 : decode cX7_readLong 28 = .ok (.goto (-23), 3) := by decide +kernel
theorem dX7_readLong_31 : decode cX7_readLong 31 = .ok (.lload_n 2, 1) := by decide +kernel
theorem dX7_readLong_32 : decode cX7_readLong 32 = .ok (.lreturn, 1) := by decide +kernel
end
section
theorem dX8_thrown_0 : decode cX8_thrown 0 = .ok (.aload_n 0, 1) := by decide +kernel
theorem dX8_thrown_1 : decode cX8_thrown 1 = .ok (.getfield 166, 3) := by decide +kernel
theorem dX8_thrown_4 : decode cX8_thrown 4 = .ok (.ireturn, 1) := by decide +kernel
theorem dX8_refused_0 : decode cX8_refused 0 = .ok (.aload_n 0, 1) := by decide +kernel
theorem dX8_refused_1 : decode cX8_refused 1 = .ok (.iload_n 1, 1) := by decide +kernel
theorem dX8_refused_2 : decode cX8_refused 2 = .ok (.putfield 166, 3) := by decide +kernel
theorem dX8_refused_5 : decode cX8_refused 5 = .ok (.iload_n 1, 1) := by decide +kernel
theorem dX8_refused_6 : decode cX8_refused 6 = .ok (.ifCond .le 7, 3) := by decide +kernel
theorem dX8_refused_9 : decode cX8_refused 9 = .ok (.iconst 1, 1) := by decide +kernel
theorem dX8_refused_10 : decode cX8_refused 10 = .ok (.goto 4, 3) := by decide +kernel
theorem dX8_refused_13 : decode cX8_refused 13 = .ok (.iconst 0, 1) := by decide +kernel
theorem dX8_refused_14 : decode cX8_refused 14 = .ok (.ireturn, 1) := by decide +kernel
theorem dX8_isIn_0 : decode cX8_isIn 0 = .ok (.lload_n 0, 1) := by decide +kernel
theorem dX8_isIn_1 : decode cX8_isIn 1 = .ok (.lload_n 2, 1) := by decide +kernel
theorem dX8_isIn_2 : decode cX8_isIn 2 = .ok (.lcmp, 1) := by decide +kernel
theorem dX8_isIn_3 : decode cX8_isIn 3 = .ok (.ifCond .lt 14, 3) := by decide +kernel
theorem dX8_isIn_6 : decode cX8_isIn 6 = .ok (.lload_n 0, 1) := by decide +kernel
theorem dX8_isIn_7 : decode cX8_isIn 7 = .ok (.lload 4, 2) := by decide +kernel
theorem dX8_isIn_9 : decode cX8_isIn 9 = .ok (.lcmp, 1) := by decide +kernel
theorem dX8_isIn_10 : decode cX8_isIn 10 = .ok (.ifCond .gt 7, 3) := by decide +kernel
theorem dX8_isIn_13 : decode cX8_isIn 13 = .ok (.iconst 1, 1) := by decide +kernel
theorem dX8_isIn_14 : decode cX8_isIn 14 = .ok (.goto 4, 3) := by decide +kernel
theorem dX8_isIn_17 : decode cX8_isIn 17 = .ok (.iconst 0, 1) := by decide +kernel
theorem dX8_isIn_18 : decode cX8_isIn 18 = .ok (.ireturn, 1) := by decide +kernel
theorem dX8_turn_0 : decode cX8_turn 0 = .ok (.iload_n 0, 1) := by decide +kernel
theorem dX8_turn_1 : decode cX8_turn 1 = .ok (.iload_n 1, 1) := by decide +kernel
theorem dX8_turn_2 : decode cX8_turn 2 = .ok (.iushr, 1) := by decide +kernel
theorem dX8_turn_3 : decode cX8_turn 3 = .ok (.iload_n 0, 1) := by decide +kernel
theorem dX8_turn_4 : decode cX8_turn 4 = .ok (.bipush 32, 2) := by decide +kernel
theorem dX8_turn_6 : decode cX8_turn 6 = .ok (.iload_n 1, 1) := by decide +kernel
theorem dX8_turn_7 : decode cX8_turn 7 = .ok (.isub, 1) := by decide +kernel
theorem dX8_turn_8 : decode cX8_turn 8 = .ok (.ishl, 1) := by decide +kernel
theorem dX8_turn_9 : decode cX8_turn 9 = .ok (.ior, 1) := by decide +kernel
theorem dX8_turn_10 : decode cX8_turn 10 = .ok (.ireturn, 1) := by decide +kernel
theorem dX8_hashNow_0 : decode cX8_hashNow 0 = .ok (.bipush 8, 2) := by decide +kernel
theorem dX8_hashNow_2 : decode cX8_hashNow 2 = .ok (.aload_n 0, 1) := by decide +kernel
theorem dX8_hashNow_3 : decode cX8_hashNow 3 = .ok (.getfield 173, 3) := by decide +kernel
theorem dX8_hashNow_6 : decode cX8_hashNow 6 = .ok (.imul, 1) := by decide +kernel
theorem dX8_hashNow_7 : decode cX8_hashNow 7 = .ok (.istore_n 1, 1) := by decide +kernel
theorem dX8_hashNow_8 : decode cX8_hashNow 8 = .ok (.aload_n 0, 1) := by decide +kernel
theorem dX8_hashNow_9 : decode cX8_hashNow 9 = .ok (.getfield 94, 3) := by decide +kernel
theorem dX8_hashNow_12 : decode cX8_hashNow 12 = .ok (.aload_n 0, 1) := by decide +kernel
theorem dX8_hashNow_13 : decode cX8_hashNow 13 = .ok (.getfield 173, 3) := by decide +kernel
theorem dX8_hashNow_16 : decode cX8_hashNow 16 = .ok (.sipush 128, 3) := by decide +kernel
theorem dX8_hashNow_19 : decode cX8_hashNow 19 = .ok (.iastore, 1) := by decide +kernel
theorem dX8_hashNow_20 : decode cX8_hashNow 20 = .ok (.aload_n 0, 1) := by decide +kernel
theorem dX8_hashNow_21 : decode cX8_hashNow 21 = .ok (.getfield 173, 3) := by decide +kernel
theorem dX8_hashNow_24 : decode cX8_hashNow 24 = .ok (.iconst 1, 1) := by decide +kernel
theorem dX8_hashNow_25 : decode cX8_hashNow 25 = .ok (.iadd, 1) := by decide +kernel
theorem dX8_hashNow_26 : decode cX8_hashNow 26 = .ok (.istore_n 2, 1) := by decide +kernel
theorem dX8_hashNow_27 : decode cX8_hashNow 27 = .ok (.iload_n 2, 1) := by decide +kernel
theorem dX8_hashNow_28 : decode cX8_hashNow 28 = .ok (.bipush 64, 2) := by decide +kernel
theorem dX8_hashNow_30 : decode cX8_hashNow 30 = .ok (.irem, 1) := by decide +kernel
theorem dX8_hashNow_31 : decode cX8_hashNow 31 = .ok (.bipush 56, 2) := by decide +kernel
theorem dX8_hashNow_33 : decode cX8_hashNow 33 = .ok (.if_icmp .eq 16, 3) := by decide +kernel
theorem dX8_hashNow_36 : decode cX8_hashNow 36 = .ok (.aload_n 0, 1) := by decide +kernel
theorem dX8_hashNow_37 : decode cX8_hashNow 37 = .ok (.getfield 94, 3) := by decide +kernel
theorem dX8_hashNow_40 : decode cX8_hashNow 40 = .ok (.iload_n 2, 1) := by decide +kernel
theorem dX8_hashNow_41 : decode cX8_hashNow 41 = .ok (.iconst 0, 1) := by decide +kernel
theorem dX8_hashNow_42 : decode cX8_hashNow 42 = .ok (.iastore, 1) := by decide +kernel
theorem dX8_hashNow_43 : decode cX8_hashNow 43 = .ok (.iinc 2 1, 3) := by decide +kernel
theorem dX8_hashNow_46 : decode cX8_hashNow 46 = .ok (.goto (-19), 3) := by decide +kernel
theorem dX8_hashNow_49 : decode cX8_hashNow 49 = .ok (.iconst 0, 1) := by decide +kernel
theorem dX8_hashNow_50 : decode cX8_hashNow 50 = .ok (.istore_n 3, 1) := by decide +kernel
theorem dX8_hashNow_51 : decode cX8_hashNow 51 = .ok (.iload_n 3, 1) := by decide +kernel
theorem dX8_hashNow_52 : decode cX8_hashNow 52 = .ok (.bipush 8, 2) := by decide +kernel
theorem dX8_hashNow_54 : decode cX8_hashNow 54 = .ok (.if_icmp .ge 39, 3) := by decide +kernel
theorem dX8_hashNow_57 : decode cX8_hashNow 57 = .ok (.aload_n 0, 1) := by decide +kernel
theorem dX8_hashNow_58 : decode cX8_hashNow 58 = .ok (.getfield 94, 3) := by decide +kernel
theorem dX8_hashNow_61 : decode cX8_hashNow 61 = .ok (.iload_n 2, 1) := by decide +kernel
theorem dX8_hashNow_62 : decode cX8_hashNow 62 = .ok (.iload_n 3, 1) := by decide +kernel
theorem dX8_hashNow_63 : decode cX8_hashNow 63 = .ok (.iadd, 1) := by decide +kernel
theorem dX8_hashNow_64 : decode cX8_hashNow 64 = .ok (.iload_n 3, 1) := by decide +kernel
theorem dX8_hashNow_65 : decode cX8_hashNow 65 = .ok (.iconst 4, 1) := by decide +kernel
theorem dX8_hashNow_66 : decode cX8_hashNow 66 = .ok (.if_icmp .ge 7, 3) := by decide +kernel
theorem dX8_hashNow_69 : decode cX8_hashNow 69 = .ok (.iconst 0, 1) := by decide +kernel
theorem dX8_hashNow_70 : decode cX8_hashNow 70 = .ok (.goto 16, 3) := by decide +kernel
theorem dX8_hashNow_73 : decode cX8_hashNow 73 = .ok (.iload_n 1, 1) := by decide +kernel
theorem dX8_hashNow_74 : decode cX8_hashNow 74 = .ok (.bipush 56, 2) := by decide +kernel
theorem dX8_hashNow_76 : decode cX8_hashNow 76 = .ok (.bipush 8, 2) := by decide +kernel
theorem dX8_hashNow_78 : decode cX8_hashNow 78 = .ok (.iload_n 3, 1) := by decide +kernel
theorem dX8_hashNow_79 : decode cX8_hashNow 79 = .ok (.imul, 1) := by decide +kernel
theorem dX8_hashNow_80 : decode cX8_hashNow 80 = .ok (.isub, 1) := by decide +kernel
theorem dX8_hashNow_81 : decode cX8_hashNow 81 = .ok (.ishr, 1) := by decide +kernel
theorem dX8_hashNow_82 : decode cX8_hashNow 82 = .ok (.sipush 255, 3) := by decide +kernel
theorem dX8_hashNow_85 : decode cX8_hashNow 85 = .ok (.iand, 1) := by decide +kernel
theorem dX8_hashNow_86 : decode cX8_hashNow 86 = .ok (.iastore, 1) := by decide +kernel
theorem dX8_hashNow_87 : decode cX8_hashNow 87 = .ok (.iinc 3 1, 3) := by decide +kernel
theorem dX8_hashNow_90 : decode cX8_hashNow 90 = .ok (.goto (-39), 3) := by decide +kernel
theorem dX8_hashNow_93 : decode cX8_hashNow 93 = .ok (.iconst 0, 1) := by decide +kernel
theorem dX8_hashNow_94 : decode cX8_hashNow 94 = .ok (.istore_n 3, 1) := by decide +kernel
theorem dX8_hashNow_95 : decode cX8_hashNow 95 = .ok (.iload_n 3, 1) := by decide +kernel
theorem dX8_hashNow_96 : decode cX8_hashNow 96 = .ok (.bipush 8, 2) := by decide +kernel
theorem dX8_hashNow_98 : decode cX8_hashNow 98 = .ok (.if_icmp .ge 21, 3) := by decide +kernel
theorem dX8_hashNow_101 : decode cX8_hashNow 101 = .ok (.aload_n 0, 1) := by decide +kernel
theorem dX8_hashNow_102 : decode cX8_hashNow 102 = .ok (.getfield 88, 3) := by decide +kernel
theorem dX8_hashNow_105 : decode cX8_hashNow 105 = .ok (.iload_n 3, 1) := by decide +kernel
theorem dX8_hashNow_106 : decode cX8_hashNow 106 = .ok (.aload_n 0, 1) := by decide +kernel
theorem dX8_hashNow_107 : decode cX8_hashNow 107 = .ok (.getfield 85, 3) := by decide +kernel
theorem dX8_hashNow_110 : decode cX8_hashNow 110 = .ok (.iload_n 3, 1) := by decide +kernel
theorem dX8_hashNow_111 : decode cX8_hashNow 111 = .ok (.iaload, 1) := by decide +kernel
theorem dX8_hashNow_112 : decode cX8_hashNow 112 = .ok (.iastore, 1) := by decide +kernel
theorem dX8_hashNow_113 : decode cX8_hashNow 113 = .ok (.iinc 3 1, 3) := by decide +kernel
theorem dX8_hashNow_116 : decode cX8_hashNow 116 = .ok (.goto (-21), 3) := by decide +kernel
theorem dX8_hashNow_119 : decode cX8_hashNow 119 = .ok (.iconst 0, 1) := by decide +kernel
theorem dX8_hashNow_120 : decode cX8_hashNow 120 = .ok (.istore_n 3, 1) := by decide +kernel
theorem dX8_hashNow_121 : decode cX8_hashNow 121 = .ok (.iload_n 3, 1) := by decide +kernel
theorem dX8_hashNow_122 : decode cX8_hashNow 122 = .ok (.iload_n 2, 1) := by decide +kernel
theorem dX8_hashNow_123 : decode cX8_hashNow 123 = .ok (.bipush 8, 2) := by decide +kernel
theorem dX8_hashNow_125 : decode cX8_hashNow 125 = .ok (.iadd, 1) := by decide +kernel
theorem dX8_hashNow_126 : decode cX8_hashNow 126 = .ok (.if_icmp .ge 14, 3) := by decide +kernel
theorem dX8_hashNow_129 : decode cX8_hashNow 129 = .ok (.aload_n 0, 1) := by decide +kernel
theorem dX8_hashNow_130 : decode cX8_hashNow 130 = .ok (.iload_n 3, 1) := by decide +kernel
theorem dX8_hashNow_131 : decode cX8_hashNow 131 = .ok (.invokevirtual 176, 3) := by decide +kernel
theorem dX8_hashNow_134 : decode cX8_hashNow 134 = .ok (.iinc 3 64, 3) := by decide +kernel
theorem dX8_hashNow_137 : decode cX8_hashNow 137 = .ok (.goto (-16), 3) := by decide +kernel
theorem dX8_hashNow_140 : decode cX8_hashNow 140 = .ok (.iconst 0, 1) := by decide +kernel
theorem dX8_hashNow_141 : decode cX8_hashNow 141 = .ok (.istore_n 3, 1) := by decide +kernel
theorem dX8_hashNow_142 : decode cX8_hashNow 142 = .ok (.iload_n 3, 1) := by decide +kernel
theorem dX8_hashNow_143 : decode cX8_hashNow 143 = .ok (.bipush 32, 2) := by decide +kernel
theorem dX8_hashNow_145 : decode cX8_hashNow 145 = .ok (.if_icmp .ge 37, 3) := by decide +kernel
theorem dX8_hashNow_148 : decode cX8_hashNow 148 = .ok (.aload_n 0, 1) := by decide +kernel
theorem dX8_hashNow_149 : decode cX8_hashNow 149 = .ok (.getfield 97, 3) := by decide +kernel
theorem dX8_hashNow_152 : decode cX8_hashNow 152 = .ok (.iload_n 3, 1) := by decide +kernel
theorem dX8_hashNow_153 : decode cX8_hashNow 153 = .ok (.aload_n 0, 1) := by decide +kernel
theorem dX8_hashNow_154 : decode cX8_hashNow 154 = .ok (.getfield 88, 3) := by decide +kernel
theorem dX8_hashNow_157 : decode cX8_hashNow 157 = .ok (.iload_n 3, 1) := by decide +kernel
theorem dX8_hashNow_158 : decode cX8_hashNow 158 = .ok (.iconst 4, 1) := by decide +kernel
theorem dX8_hashNow_159 : decode cX8_hashNow 159 = .ok (.idiv, 1) := by decide +kernel
theorem dX8_hashNow_160 : decode cX8_hashNow 160 = .ok (.iaload, 1) := by decide +kernel
theorem dX8_hashNow_161 : decode cX8_hashNow 161 = .ok (.bipush 24, 2) := by decide +kernel
theorem dX8_hashNow_163 : decode cX8_hashNow 163 = .ok (.bipush 8, 2) := by decide +kernel
theorem dX8_hashNow_165 : decode cX8_hashNow 165 = .ok (.iload_n 3, 1) := by decide +kernel
theorem dX8_hashNow_166 : decode cX8_hashNow 166 = .ok (.iconst 4, 1) := by decide +kernel
theorem dX8_hashNow_167 : decode cX8_hashNow 167 = .ok (.irem, 1) := by decide +kernel
theorem dX8_hashNow_168 : decode cX8_hashNow 168 = .ok (.imul, 1) := by decide +kernel
theorem dX8_hashNow_169 : decode cX8_hashNow 169 = .ok (.isub, 1) := by decide +kernel
theorem dX8_hashNow_170 : decode cX8_hashNow 170 = .ok (.ishr, 1) := by decide +kernel
theorem dX8_hashNow_171 : decode cX8_hashNow 171 = .ok (.sipush 255, 3) := by decide +kernel
theorem dX8_hashNow_174 : decode cX8_hashNow 174 = .ok (.iand, 1) := by decide +kernel
theorem dX8_hashNow_175 : decode cX8_hashNow 175 = .ok (.iastore, 1) := by decide +kernel
theorem dX8_hashNow_176 : decode cX8_hashNow 176 = .ok (.iinc 3 1, 3) := by decide +kernel
theorem dX8_hashNow_179 : decode cX8_hashNow 179 = .ok (.goto (-37), 3) := by decide +kernel
theorem dX8_hashNow_182 : decode cX8_hashNow 182 = .ok (.return_, 1) := by decide +kernel
theorem dX8_seal_0 : decode cX8_seal 0 = .ok (.iconst 0, 1) := by decide +kernel
theorem dX8_seal_1 : decode cX8_seal 1 = .ok (.istore_n 1, 1) := by decide +kernel
theorem dX8_seal_2 : decode cX8_seal 2 = .ok (.iload_n 1, 1) := by decide +kernel
theorem dX8_seal_3 : decode cX8_seal 3 = .ok (.bipush 64, 2) := by decide +kernel
theorem dX8_seal_5 : decode cX8_seal 5 = .ok (.if_icmp .ge 24, 3) := by decide +kernel
theorem dX8_seal_8 : decode cX8_seal 8 = .ok (.aload_n 0, 1) := by decide +kernel
theorem dX8_seal_9 : decode cX8_seal 9 = .ok (.getfield 94, 3) := by decide +kernel
theorem dX8_seal_12 : decode cX8_seal 12 = .ok (.iload_n 1, 1) := by decide +kernel
theorem dX8_seal_13 : decode cX8_seal 13 = .ok (.aload_n 0, 1) := by decide +kernel
theorem dX8_seal_14 : decode cX8_seal 14 = .ok (.getfield 100, 3) := by decide +kernel
theorem dX8_seal_17 : decode cX8_seal 17 = .ok (.iload_n 1, 1) := by decide +kernel
theorem dX8_seal_18 : decode cX8_seal 18 = .ok (.iaload, 1) := by decide +kernel
theorem dX8_seal_19 : decode cX8_seal 19 = .ok (.bipush 54, 2) := by decide +kernel
theorem dX8_seal_21 : decode cX8_seal 21 = .ok (.ixor, 1) := by decide +kernel
theorem dX8_seal_22 : decode cX8_seal 22 = .ok (.iastore, 1) := by decide +kernel
theorem dX8_seal_23 : decode cX8_seal 23 = .ok (.iinc 1 1, 3) := by decide +kernel
theorem dX8_seal_26 : decode cX8_seal 26 = .ok (.goto (-24), 3) := by decide +kernel
theorem dX8_seal_29 : decode cX8_seal 29 = .ok (.iconst 0, 1) := by decide +kernel
theorem dX8_seal_30 : decode cX8_seal 30 = .ok (.istore_n 1, 1) := by decide +kernel
theorem dX8_seal_31 : decode cX8_seal 31 = .ok (.iload_n 1, 1) := by decide +kernel
theorem dX8_seal_32 : decode cX8_seal 32 = .ok (.aload_n 0, 1) := by decide +kernel
theorem dX8_seal_33 : decode cX8_seal 33 = .ok (.getfield 180, 3) := by decide +kernel
theorem dX8_seal_36 : decode cX8_seal 36 = .ok (.if_icmp .ge 24, 3) := by decide +kernel
theorem dX8_seal_39 : decode cX8_seal 39 = .ok (.aload_n 0, 1) := by decide +kernel
theorem dX8_seal_40 : decode cX8_seal 40 = .ok (.getfield 94, 3) := by decide +kernel
theorem dX8_seal_43 : decode cX8_seal 43 = .ok (.bipush 64, 2) := by decide +kernel
theorem dX8_seal_45 : decode cX8_seal 45 = .ok (.iload_n 1, 1) := by decide +kernel
theorem dX8_seal_46 : decode cX8_seal 46 = .ok (.iadd, 1) := by decide +kernel
theorem dX8_seal_47 : decode cX8_seal 47 = .ok (.aload_n 0, 1) := by decide +kernel
theorem dX8_seal_48 : decode cX8_seal 48 = .ok (.getfield 103, 3) := by decide +kernel
theorem dX8_seal_51 : decode cX8_seal 51 = .ok (.iload_n 1, 1) := by decide +kernel
theorem dX8_seal_52 : decode cX8_seal 52 = .ok (.iaload, 1) := by decide +kernel
theorem dX8_seal_53 : decode cX8_seal 53 = .ok (.iastore, 1) := by decide +kernel
theorem dX8_seal_54 : decode cX8_seal 54 = .ok (.iinc 1 1, 3) := by decide +kernel
theorem dX8_seal_57 : decode cX8_seal 57 = .ok (.goto (-26), 3) := by decide +kernel
theorem dX8_seal_60 : decode cX8_seal 60 = .ok (.aload_n 0, 1) := by decide +kernel
theorem dX8_seal_61 : decode cX8_seal 61 = .ok (.bipush 64, 2) := by decide +kernel
theorem dX8_seal_63 : decode cX8_seal 63 = .ok (.aload_n 0, 1) := by decide +kernel
theorem dX8_seal_64 : decode cX8_seal 64 = .ok (.getfield 180, 3) := by decide +kernel
theorem dX8_seal_67 : decode cX8_seal 67 = .ok (.iadd, 1) := by decide +kernel
theorem dX8_seal_68 : decode cX8_seal 68 = .ok (.putfield 173, 3) := by decide +kernel
theorem dX8_seal_71 : decode cX8_seal 71 = .ok (.aload_n 0, 1) := by decide +kernel
theorem dX8_seal_72 : decode cX8_seal 72 = .ok (.invokevirtual 183, 3) := by decide +kernel
theorem dX8_seal_75 : decode cX8_seal 75 = .ok (.iconst 0, 1) := by decide +kernel
theorem dX8_seal_76 : decode cX8_seal 76 = .ok (.istore_n 1, 1) := by decide +kernel
theorem dX8_seal_77 : decode cX8_seal 77 = .ok (.iload_n 1, 1) := by decide +kernel
theorem dX8_seal_78 : decode cX8_seal 78 = .ok (.bipush 64, 2) := by decide +kernel
theorem dX8_seal_80 : decode cX8_seal 80 = .ok (.if_icmp .ge 24, 3) := by decide +kernel
theorem dX8_seal_83 : decode cX8_seal 83 = .ok (.aload_n 0, 1) := by decide +kernel
theorem dX8_seal_84 : decode cX8_seal 84 = .ok (.getfield 94, 3) := by decide +kernel
theorem dX8_seal_87 : decode cX8_seal 87 = .ok (.iload_n 1, 1) := by decide +kernel
theorem dX8_seal_88 : decode cX8_seal 88 = .ok (.aload_n 0, 1) := by decide +kernel
theorem dX8_seal_89 : decode cX8_seal 89 = .ok (.getfield 100, 3) := by decide +kernel
theorem dX8_seal_92 : decode cX8_seal 92 = .ok (.iload_n 1, 1) := by decide +kernel
theorem dX8_seal_93 : decode cX8_seal 93 = .ok (.iaload, 1) := by decide +kernel
theorem dX8_seal_94 : decode cX8_seal 94 = .ok (.bipush 92, 2) := by decide +kernel
theorem dX8_seal_96 : decode cX8_seal 96 = .ok (.ixor, 1) := by decide +kernel
theorem dX8_seal_97 : decode cX8_seal 97 = .ok (.iastore, 1) := by decide +kernel
theorem dX8_seal_98 : decode cX8_seal 98 = .ok (.iinc 1 1, 3) := by decide +kernel
theorem dX8_seal_101 : decode cX8_seal 101 = .ok (.goto (-24), 3) := by decide +kernel
theorem dX8_seal_104 : decode cX8_seal 104 = .ok (.iconst 0, 1) := by decide +kernel
theorem dX8_seal_105 : decode cX8_seal 105 = .ok (.istore_n 1, 1) := by decide +kernel
theorem dX8_seal_106 : decode cX8_seal 106 = .ok (.iload_n 1, 1) := by decide +kernel
theorem dX8_seal_107 : decode cX8_seal 107 = .ok (.bipush 32, 2) := by decide +kernel
theorem dX8_seal_109 : decode cX8_seal 109 = .ok (.if_icmp .ge 24, 3) := by decide +kernel
theorem dX8_seal_112 : decode cX8_seal 112 = .ok (.aload_n 0, 1) := by decide +kernel
theorem dX8_seal_113 : decode cX8_seal 113 = .ok (.getfield 94, 3) := by decide +kernel
theorem dX8_seal_116 : decode cX8_seal 116 = .ok (.bipush 64, 2) := by decide +kernel
theorem dX8_seal_118 : decode cX8_seal 118 = .ok (.iload_n 1, 1) := by decide +kernel
theorem dX8_seal_119 : decode cX8_seal 119 = .ok (.iadd, 1) := by decide +kernel
theorem dX8_seal_120 : decode cX8_seal 120 = .ok (.aload_n 0, 1) := by decide +kernel
theorem dX8_seal_121 : decode cX8_seal 121 = .ok (.getfield 97, 3) := by decide +kernel
theorem dX8_seal_124 : decode cX8_seal 124 = .ok (.iload_n 1, 1) := by decide +kernel
theorem dX8_seal_125 : decode cX8_seal 125 = .ok (.iaload, 1) := by decide +kernel
theorem dX8_seal_126 : decode cX8_seal 126 = .ok (.iastore, 1) := by decide +kernel
theorem dX8_seal_127 : decode cX8_seal 127 = .ok (.iinc 1 1, 3) := by decide +kernel
theorem dX8_seal_130 : decode cX8_seal 130 = .ok (.goto (-24), 3) := by decide +kernel
theorem dX8_seal_133 : decode cX8_seal 133 = .ok (.aload_n 0, 1) := by decide +kernel
theorem dX8_seal_134 : decode cX8_seal 134 = .ok (.bipush 96, 2) := by decide +kernel
theorem dX8_seal_136 : decode cX8_seal 136 = .ok (.putfield 173, 3) := by decide +kernel
theorem dX8_seal_139 : decode cX8_seal 139 = .ok (.aload_n 0, 1) := by decide +kernel
theorem dX8_seal_140 : decode cX8_seal 140 = .ok (.invokevirtual 183, 3) := by decide +kernel
theorem dX8_seal_143 : decode cX8_seal 143 = .ok (.return_, 1) := by decide +kernel
theorem dX8_say_0 : decode cX8_say 0 = .ok (.aload_n 0, 1) := by decide +kernel
theorem dX8_say_1 : decode cX8_say 1 = .ok (.getfield 103, 3) := by decide +kernel
theorem dX8_say_4 : decode cX8_say 4 = .ok (.aload_n 0, 1) := by decide +kernel
theorem dX8_say_5 : decode cX8_say 5 = .ok (.getfield 180, 3) := by decide +kernel
theorem dX8_say_8 : decode cX8_say 8 = .ok (.iload_n 1, 1) := by decide +kernel
theorem dX8_say_9 : decode cX8_say 9 = .ok (.sipush 255, 3) := by decide +kernel
theorem dX8_say_12 : decode cX8_say 12 = .ok (.iand, 1) := by decide +kernel
theorem dX8_say_13 : decode cX8_say 13 = .ok (.iastore, 1) := by decide +kernel
theorem dX8_say_14 : decode cX8_say 14 = .ok (.aload_n 0, 1) := by decide +kernel
theorem dX8_say_15 : decode cX8_say 15 = .ok (.dup, 1) := by decide +kernel
theorem dX8_say_16 : decode cX8_say 16 = .ok (.getfield 180, 3) := by decide +kernel
theorem dX8_say_19 : decode cX8_say 19 = .ok (.iconst 1, 1) := by decide +kernel
theorem dX8_say_20 : decode cX8_say 20 = .ok (.iadd, 1) := by decide +kernel
theorem dX8_say_21 : decode cX8_say 21 = .ok (.putfield 180, 3) := by decide +kernel
theorem dX8_say_24 : decode cX8_say 24 = .ok (.return_, 1) := by decide +kernel
theorem dX8_takeKey_0 : decode cX8_takeKey 0 = .ok (.iconst 0, 1) := by decide +kernel
theorem dX8_takeKey_1 : decode cX8_takeKey 1 = .ok (.istore_n 2, 1) := by decide +kernel
theorem dX8_takeKey_2 : decode cX8_takeKey 2 = .ok (.iload_n 2, 1) := by decide +kernel
theorem dX8_takeKey_3 : decode cX8_takeKey 3 = .ok (.bipush 64, 2) := by decide +kernel
theorem dX8_takeKey_5 : decode cX8_takeKey 5 = .ok (.if_icmp .ge 36, 3) := by decide +kernel
theorem dX8_takeKey_8 : decode cX8_takeKey 8 = .ok (.aload_n 0, 1) := by decide +kernel
theorem dX8_takeKey_9 : decode cX8_takeKey 9 = .ok (.getfield 100, 3) := by decide +kernel
theorem dX8_takeKey_12 : decode cX8_takeKey 12 = .ok (.iload_n 2, 1) := by decide +kernel
theorem dX8_takeKey_13 : decode cX8_takeKey 13 = .ok (.iload_n 2, 1) := by decide +kernel
theorem dX8_takeKey_14 : decode cX8_takeKey 14 = .ok (.bipush 16, 2) := by decide +kernel
theorem dX8_takeKey_16 : decode cX8_takeKey 16 = .ok (.if_icmp .ge 17, 3) := by decide +kernel
theorem dX8_takeKey_19 : decode cX8_takeKey 19 = .ok (.aload_n 0, 1) := by decide +kernel
theorem dX8_takeKey_20 : decode cX8_takeKey 20 = .ok (.getfield 125, 3) := by decide +kernel
theorem dX8_takeKey_23 : decode cX8_takeKey 23 = .ok (.bipush 16, 2) := by decide +kernel
theorem dX8_takeKey_25 : decode cX8_takeKey 25 = .ok (.iload_n 1, 1) := by decide +kernel
theorem dX8_takeKey_26 : decode cX8_takeKey 26 = .ok (.imul, 1) := by decide +kernel
theorem dX8_takeKey_27 : decode cX8_takeKey 27 = .ok (.iload_n 2, 1) := by decide +kernel
theorem dX8_takeKey_28 : decode cX8_takeKey 28 = .ok (.iadd, 1) := by decide +kernel
theorem dX8_takeKey_29 : decode cX8_takeKey 29 = .ok (.iaload, 1) := by decide +kernel
theorem dX8_takeKey_30 : decode cX8_takeKey 30 = .ok (.goto 4, 3) := by decide +kernel
theorem dX8_takeKey_33 : decode cX8_takeKey 33 = .ok (.iconst 0, 1) := by decide +kernel
theorem dX8_takeKey_34 : decode cX8_takeKey 34 = .ok (.iastore, 1) := by decide +kernel
theorem dX8_takeKey_35 : decode cX8_takeKey 35 = .ok (.iinc 2 1, 3) := by decide +kernel
theorem dX8_takeKey_38 : decode cX8_takeKey 38 = .ok (.goto (-36), 3) := by decide +kernel
theorem dX8_takeKey_41 : decode cX8_takeKey 41 = .ok (.return_, 1) := by decide +kernel
theorem dX8_newId_0 : decode cX8_newId 0 = .ok (.iconst 0, 1) := by decide +kernel
theorem dX8_newId_1 : decode cX8_newId 1 = .ok (.istore_n 1, 1) := by decide +kernel
theorem dX8_newId_2 : decode cX8_newId 2 = .ok (.iload_n 1, 1) := by decide +kernel
theorem dX8_newId_3 : decode cX8_newId 3 = .ok (.bipush 64, 2) := by decide +kernel
theorem dX8_newId_5 : decode cX8_newId 5 = .ok (.if_icmp .ge 42, 3) := by decide +kernel
theorem dX8_newId_8 : decode cX8_newId 8 = .ok (.aload_n 0, 1) := by decide +kernel
theorem dX8_newId_9 : decode cX8_newId 9 = .ok (.getfield 100, 3) := by decide +kernel
theorem dX8_newId_12 : decode cX8_newId 12 = .ok (.iload_n 1, 1) := by decide +kernel
theorem dX8_newId_13 : decode cX8_newId 13 = .ok (.iload_n 1, 1) := by decide +kernel
theorem dX8_newId_14 : decode cX8_newId 14 = .ok (.bipush 8, 2) := by decide +kernel
theorem dX8_newId_16 : decode cX8_newId 16 = .ok (.if_icmp .ge 23, 3) := by decide +kernel
theorem dX8_newId_19 : decode cX8_newId 19 = .ok (.aload_n 0, 1) := by decide +kernel
theorem dX8_newId_20 : decode cX8_newId 20 = .ok (.getfield 186, 3) := by decide +kernel
theorem dX8_newId_23 : decode cX8_newId 23 = .ok (.bipush 56, 2) := by decide +kernel
theorem dX8_newId_25 : decode cX8_newId 25 = .ok (.bipush 8, 2) := by decide +kernel
theorem dX8_newId_27 : decode cX8_newId 27 = .ok (.iload_n 1, 1) := by decide +kernel
theorem dX8_newId_28 : decode cX8_newId 28 = .ok (.imul, 1) := by decide +kernel
theorem dX8_newId_29 : decode cX8_newId 29 = .ok (.isub, 1) := by decide +kernel
theorem dX8_newId_30 : decode cX8_newId 30 = .ok (.lshr, 1) := by decide +kernel
theorem dX8_newId_31 : decode cX8_newId 31 = .ok (.ldc2_w 189, 3) := by decide +kernel
theorem dX8_newId_34 : decode cX8_newId 34 = .ok (.land, 1) := by decide +kernel
theorem dX8_newId_35 : decode cX8_newId 35 = .ok (.l2i, 1) := by decide +kernel
theorem dX8_newId_36 : decode cX8_newId 36 = .ok (.goto 4, 3) := by decide +kernel
theorem dX8_newId_39 : decode cX8_newId 39 = .ok (.iconst 0, 1) := by decide +kernel
theorem dX8_newId_40 : decode cX8_newId 40 = .ok (.iastore, 1) := by decide +kernel
theorem dX8_newId_41 : decode cX8_newId 41 = .ok (.iinc 1 1, 3) := by decide +kernel
theorem dX8_newId_44 : decode cX8_newId 44 = .ok (.goto (-42), 3) := by decide +kernel
theorem dX8_newId_47 : decode cX8_newId 47 = .ok (.aload_n 0, 1) := by decide +kernel
theorem dX8_newId_48 : decode cX8_newId 48 = .ok (.iconst 0, 1) := by decide +kernel
theorem dX8_newId_49 : decode cX8_newId 49 = .ok (.putfield 180, 3) := by decide +kernel
theorem dX8_newId_52 : decode cX8_newId 52 = .ok (.iconst 0, 1) := by decide +kernel
theorem dX8_newId_53 : decode cX8_newId 53 = .ok (.istore_n 1, 1) := by decide +kernel
theorem dX8_newId_54 : decode cX8_newId 54 = .ok (.iload_n 1, 1) := by decide +kernel
theorem dX8_newId_55 : decode cX8_newId 55 = .ok (.bipush 8, 2) := by decide +kernel
theorem dX8_newId_57 : decode cX8_newId 57 = .ok (.if_icmp .ge 26, 3) := by decide +kernel
theorem dX8_newId_60 : decode cX8_newId 60 = .ok (.aload_n 0, 1) := by decide +kernel
theorem dX8_newId_61 : decode cX8_newId 61 = .ok (.aload_n 0, 1) := by decide +kernel
theorem dX8_newId_62 : decode cX8_newId 62 = .ok (.getfield 191, 3) := by decide +kernel
theorem dX8_newId_65 : decode cX8_newId 65 = .ok (.bipush 56, 2) := by decide +kernel
theorem dX8_newId_67 : decode cX8_newId 67 = .ok (.bipush 8, 2) := by decide +kernel
theorem dX8_newId_69 : decode cX8_newId 69 = .ok (.iload_n 1, 1) := by decide +kernel
theorem dX8_newId_70 : decode cX8_newId 70 = .ok (.imul, 1) := by decide +kernel
theorem dX8_newId_71 : decode cX8_newId 71 = .ok (.isub, 1) := by decide +kernel
theorem dX8_newId_72 : decode cX8_newId 72 = .ok (.lshr, 1) := by decide +kernel
theorem dX8_newId_73 : decode cX8_newId 73 = .ok (.l2i, 1) := by decide +kernel
theorem dX8_newId_74 : decode cX8_newId 74 = .ok (.invokevirtual 194, 3) := by decide +kernel
theorem dX8_newId_77 : decode cX8_newId 77 = .ok (.iinc 1 1, 3) := by decide +kernel
theorem dX8_newId_80 : decode cX8_newId 80 = .ok (.goto (-26), 3) := by decide +kernel
theorem dX8_newId_83 : decode cX8_newId 83 = .ok (.aload_n 0, 1) := by decide +kernel
theorem dX8_newId_84 : decode cX8_newId 84 = .ok (.invokevirtual 197, 3) := by decide +kernel
theorem dX8_newId_87 : decode cX8_newId 87 = .ok (.lconst 0, 1) := by decide +kernel
theorem dX8_newId_88 : decode cX8_newId 88 = .ok (.lstore_n 1, 1) := by decide +kernel
theorem dX8_newId_89 : decode cX8_newId 89 = .ok (.iconst 0, 1) := by decide +kernel
theorem dX8_newId_90 : decode cX8_newId 90 = .ok (.istore_n 3, 1) := by decide +kernel
theorem dX8_newId_91 : decode cX8_newId 91 = .ok (.iload_n 3, 1) := by decide +kernel
theorem dX8_newId_92 : decode cX8_newId 92 = .ok (.bipush 8, 2) := by decide +kernel
theorem dX8_newId_94 : decode cX8_newId 94 = .ok (.if_icmp .ge 22, 3) := by decide +kernel
theorem dX8_newId_97 : decode cX8_newId 97 = .ok (.lload_n 1, 1) := by decide +kernel
theorem dX8_newId_98 : decode cX8_newId 98 = .ok (.bipush 8, 2) := by decide +kernel
theorem dX8_newId_100 : decode cX8_newId 100 = .ok (.lshl, 1) := by decide +kernel
theorem dX8_newId_101 : decode cX8_newId 101 = .ok (.aload_n 0, 1) := by decide +kernel
theorem dX8_newId_102 : decode cX8_newId 102 = .ok (.getfield 97, 3) := by decide +kernel
theorem dX8_newId_105 : decode cX8_newId 105 = .ok (.iload_n 3, 1) := by decide +kernel
theorem dX8_newId_106 : decode cX8_newId 106 = .ok (.iaload, 1) := by decide +kernel
theorem dX8_newId_107 : decode cX8_newId 107 = .ok (.i2l, 1) := by decide +kernel
theorem dX8_newId_108 : decode cX8_newId 108 = .ok (.lor, 1) := by decide +kernel
theorem dX8_newId_109 : decode cX8_newId 109 = .ok (.lstore_n 1, 1) := by decide +kernel
theorem dX8_newId_110 : decode cX8_newId 110 = .ok (.iinc 3 1, 3) := by decide +kernel
theorem dX8_newId_113 : decode cX8_newId 113 = .ok (.goto (-22), 3) := by decide +kernel
theorem dX8_newId_116 : decode cX8_newId 116 = .ok (.lload_n 1, 1) := by decide +kernel
theorem dX8_newId_117 : decode cX8_newId 117 = .ok (.lreturn, 1) := by decide +kernel
theorem dX8_signOf_0 : decode cX8_signOf 0 = .ok (.iload_n 0, 1) := by decide +kernel
theorem dX8_signOf_1 : decode cX8_signOf 1 = .ok (.bipush 26, 2) := by decide +kernel
theorem dX8_signOf_3 : decode cX8_signOf 3 = .ok (.if_icmp .ge 10, 3) := by decide +kernel
theorem dX8_signOf_6 : decode cX8_signOf 6 = .ok (.bipush 65, 2) := by decide +kernel
theorem dX8_signOf_8 : decode cX8_signOf 8 = .ok (.iload_n 0, 1) := by decide +kernel
theorem dX8_signOf_9 : decode cX8_signOf 9 = .ok (.iadd, 1) := by decide +kernel
theorem dX8_signOf_10 : decode cX8_signOf 10 = .ok (.goto 48, 3) := by decide +kernel
theorem dX8_signOf_13 : decode cX8_signOf 13 = .ok (.iload_n 0, 1) := by decide +kernel
theorem dX8_signOf_14 : decode cX8_signOf 14 = .ok (.bipush 52, 2) := by decide +kernel
theorem dX8_signOf_16 : decode cX8_signOf 16 = .ok (.if_icmp .ge 13, 3) := by decide +kernel
theorem dX8_signOf_19 : decode cX8_signOf 19 = .ok (.bipush 97, 2) := by decide +kernel
theorem dX8_signOf_21 : decode cX8_signOf 21 = .ok (.iload_n 0, 1) := by decide +kernel
theorem dX8_signOf_22 : decode cX8_signOf 22 = .ok (.iadd, 1) := by decide +kernel
theorem dX8_signOf_23 : decode cX8_signOf 23 = .ok (.bipush 26, 2) := by decide +kernel
theorem dX8_signOf_25 : decode cX8_signOf 25 = .ok (.isub, 1) := by decide +kernel
theorem dX8_signOf_26 : decode cX8_signOf 26 = .ok (.goto 32, 3) := by decide +kernel
theorem dX8_signOf_29 : decode cX8_signOf 29 = .ok (.iload_n 0, 1) := by decide +kernel
theorem dX8_signOf_30 : decode cX8_signOf 30 = .ok (.bipush 62, 2) := by decide +kernel
theorem dX8_signOf_32 : decode cX8_signOf 32 = .ok (.if_icmp .ge 13, 3) := by decide +kernel
theorem dX8_signOf_35 : decode cX8_signOf 35 = .ok (.bipush 48, 2) := by decide +kernel
theorem dX8_signOf_37 : decode cX8_signOf 37 = .ok (.iload_n 0, 1) := by decide +kernel
theorem dX8_signOf_38 : decode cX8_signOf 38 = .ok (.iadd, 1) := by decide +kernel
theorem dX8_signOf_39 : decode cX8_signOf 39 = .ok (.bipush 52, 2) := by decide +kernel
theorem dX8_signOf_41 : decode cX8_signOf 41 = .ok (.isub, 1) := by decide +kernel
theorem dX8_signOf_42 : decode cX8_signOf 42 = .ok (.goto 16, 3) := by decide +kernel
theorem dX8_signOf_45 : decode cX8_signOf 45 = .ok (.iload_n 0, 1) := by decide +kernel
theorem dX8_signOf_46 : decode cX8_signOf 46 = .ok (.bipush 62, 2) := by decide +kernel
theorem dX8_signOf_48 : decode cX8_signOf 48 = .ok (.if_icmp .ne 8, 3) := by decide +kernel
theorem dX8_signOf_51 : decode cX8_signOf 51 = .ok (.bipush 45, 2) := by decide +kernel
theorem dX8_signOf_53 : decode cX8_signOf 53 = .ok (.goto 5, 3) := by decide +kernel
theorem dX8_signOf_56 : decode cX8_signOf 56 = .ok (.bipush 95, 2) := by decide +kernel
theorem dX8_signOf_58 : decode cX8_signOf 58 = .ok (.ireturn, 1) := by decide +kernel
theorem dX8_valueOf_0 : decode cX8_valueOf 0 = .ok (.iload_n 0, 1) := by decide +kernel
theorem dX8_valueOf_1 : decode cX8_valueOf 1 = .ok (.bipush 65, 2) := by decide +kernel
theorem dX8_valueOf_3 : decode cX8_valueOf 3 = .ok (.if_icmp .lt 16, 3) := by decide +kernel
theorem dX8_valueOf_6 : decode cX8_valueOf 6 = .ok (.iload_n 0, 1) := by decide +kernel
theorem dX8_valueOf_7 : decode cX8_valueOf 7 = .ok (.bipush 90, 2) := by decide +kernel
theorem dX8_valueOf_9 : decode cX8_valueOf 9 = .ok (.if_icmp .gt 10, 3) := by decide +kernel
theorem dX8_valueOf_12 : decode cX8_valueOf 12 = .ok (.iload_n 0, 1) := by decide +kernel
theorem dX8_valueOf_13 : decode cX8_valueOf 13 = .ok (.bipush 65, 2) := by decide +kernel
theorem dX8_valueOf_15 : decode cX8_valueOf 15 = .ok (.isub, 1) := by decide +kernel
theorem dX8_valueOf_16 : decode cX8_valueOf 16 = .ok (.goto 70, 3) := by decide +kernel
theorem dX8_valueOf_19 : decode cX8_valueOf 19 = .ok (.iload_n 0, 1) := by decide +kernel
theorem dX8_valueOf_20 : decode cX8_valueOf 20 = .ok (.bipush 97, 2) := by decide +kernel
theorem dX8_valueOf_22 : decode cX8_valueOf 22 = .ok (.if_icmp .lt 19, 3) := by decide +kernel
theorem dX8_valueOf_25 : decode cX8_valueOf 25 = .ok (.iload_n 0, 1) := by decide +kernel
theorem dX8_valueOf_26 : decode cX8_valueOf 26 = .ok (.bipush 122, 2) := by decide +kernel
theorem dX8_valueOf_28 : decode cX8_valueOf 28 = .ok (.if_icmp .gt 13, 3) := by decide +kernel
theorem dX8_valueOf_31 : decode cX8_valueOf 31 = .ok (.iload_n 0, 1) := by decide +kernel
theorem dX8_valueOf_32 : decode cX8_valueOf 32 = .ok (.bipush 97, 2) := by decide +kernel
theorem dX8_valueOf_34 : decode cX8_valueOf 34 = .ok (.isub, 1) := by decide +kernel
theorem dX8_valueOf_35 : decode cX8_valueOf 35 = .ok (.bipush 26, 2) := by decide +kernel
theorem dX8_valueOf_37 : decode cX8_valueOf 37 = .ok (.iadd, 1) := by decide +kernel
theorem dX8_valueOf_38 : decode cX8_valueOf 38 = .ok (.goto 48, 3) := by decide +kernel
theorem dX8_valueOf_41 : decode cX8_valueOf 41 = .ok (.iload_n 0, 1) := by decide +kernel
theorem dX8_valueOf_42 : decode cX8_valueOf 42 = .ok (.bipush 48, 2) := by decide +kernel
theorem dX8_valueOf_44 : decode cX8_valueOf 44 = .ok (.if_icmp .lt 19, 3) := by decide +kernel
theorem dX8_valueOf_47 : decode cX8_valueOf 47 = .ok (.iload_n 0, 1) := by decide +kernel
theorem dX8_valueOf_48 : decode cX8_valueOf 48 = .ok (.bipush 57, 2) := by decide +kernel
theorem dX8_valueOf_50 : decode cX8_valueOf 50 = .ok (.if_icmp .gt 13, 3) := by decide +kernel
theorem dX8_valueOf_53 : decode cX8_valueOf 53 = .ok (.iload_n 0, 1) := by decide +kernel
theorem dX8_valueOf_54 : decode cX8_valueOf 54 = .ok (.bipush 48, 2) := by decide +kernel
theorem dX8_valueOf_56 : decode cX8_valueOf 56 = .ok (.isub, 1) := by decide +kernel
theorem dX8_valueOf_57 : decode cX8_valueOf 57 = .ok (.bipush 52, 2) := by decide +kernel
theorem dX8_valueOf_59 : decode cX8_valueOf 59 = .ok (.iadd, 1) := by decide +kernel
theorem dX8_valueOf_60 : decode cX8_valueOf 60 = .ok (.goto 26, 3) := by decide +kernel
theorem dX8_valueOf_63 : decode cX8_valueOf 63 = .ok (.iload_n 0, 1) := by decide +kernel
theorem dX8_valueOf_64 : decode cX8_valueOf 64 = .ok (.bipush 45, 2) := by decide +kernel
theorem dX8_valueOf_66 : decode cX8_valueOf 66 = .ok (.if_icmp .ne 8, 3) := by decide +kernel
theorem dX8_valueOf_69 : decode cX8_valueOf 69 = .ok (.bipush 62, 2) := by decide +kernel
theorem dX8_valueOf_71 : decode cX8_valueOf 71 = .ok (.goto 15, 3) := by decide +kernel
theorem dX8_valueOf_74 : decode cX8_valueOf 74 = .ok (.iload_n 0, 1) := by decide +kernel
theorem dX8_valueOf_75 : decode cX8_valueOf 75 = .ok (.bipush 95, 2) := by decide +kernel
theorem dX8_valueOf_77 : decode cX8_valueOf 77 = .ok (.if_icmp .ne 8, 3) := by decide +kernel
theorem dX8_valueOf_80 : decode cX8_valueOf 80 = .ok (.bipush 63, 2) := by decide +kernel
theorem dX8_valueOf_82 : decode cX8_valueOf 82 = .ok (.goto 4, 3) := by decide +kernel
theorem dX8_valueOf_85 : decode cX8_valueOf 85 = .ok (.iconst (-1), 1) := by decide +kernel
theorem dX8_valueOf_86 : decode cX8_valueOf 86 = .ok (.ireturn, 1) := by decide +kernel
theorem dX8_codedAt_0 : decode cX8_codedAt 0 = .ok (.iconst 0, 1) := by decide +kernel
theorem dX8_codedAt_1 : decode cX8_codedAt 1 = .ok (.istore_n 3, 1) := by decide +kernel
theorem dX8_codedAt_2 : decode cX8_codedAt 2 = .ok (.bipush 6, 2) := by decide +kernel
theorem dX8_codedAt_4 : decode cX8_codedAt 4 = .ok (.iload_n 1, 1) := by decide +kernel
theorem dX8_codedAt_5 : decode cX8_codedAt 5 = .ok (.imul, 1) := by decide +kernel
theorem dX8_codedAt_6 : decode cX8_codedAt 6 = .ok (.istore 4, 2) := by decide +kernel
theorem dX8_codedAt_8 : decode cX8_codedAt 8 = .ok (.iload 4, 2) := by decide +kernel
theorem dX8_codedAt_10 : decode cX8_codedAt 10 = .ok (.bipush 6, 2) := by decide +kernel
theorem dX8_codedAt_12 : decode cX8_codedAt 12 = .ok (.iload_n 1, 1) := by decide +kernel
theorem dX8_codedAt_13 : decode cX8_codedAt 13 = .ok (.imul, 1) := by decide +kernel
theorem dX8_codedAt_14 : decode cX8_codedAt 14 = .ok (.bipush 6, 2) := by decide +kernel
theorem dX8_codedAt_16 : decode cX8_codedAt 16 = .ok (.iadd, 1) := by decide +kernel
theorem dX8_codedAt_17 : decode cX8_codedAt 17 = .ok (.if_icmp .ge 48, 3) := by decide +kernel
theorem dX8_codedAt_20 : decode cX8_codedAt 20 = .ok (.iconst 2, 1) := by decide +kernel
theorem dX8_codedAt_21 : decode cX8_codedAt 21 = .ok (.iload_n 3, 1) := by decide +kernel
theorem dX8_codedAt_22 : decode cX8_codedAt 22 = .ok (.imul, 1) := by decide +kernel
theorem dX8_codedAt_23 : decode cX8_codedAt 23 = .ok (.iload 4, 2) := by decide +kernel
theorem dX8_codedAt_25 : decode cX8_codedAt 25 = .ok (.bipush 8, 2) := by decide +kernel
theorem dX8_codedAt_27 : decode cX8_codedAt 27 = .ok (.iload_n 2, 1) := by decide +kernel
theorem dX8_codedAt_28 : decode cX8_codedAt 28 = .ok (.imul, 1) := by decide +kernel
theorem dX8_codedAt_29 : decode cX8_codedAt 29 = .ok (.if_icmp .ge 27, 3) := by decide +kernel
theorem dX8_codedAt_32 : decode cX8_codedAt 32 = .ok (.aload_n 0, 1) := by decide +kernel
theorem dX8_codedAt_33 : decode cX8_codedAt 33 = .ok (.getfield 163, 3) := by decide +kernel
theorem dX8_codedAt_36 : decode cX8_codedAt 36 = .ok (.iload 4, 2) := by decide +kernel
theorem dX8_codedAt_38 : decode cX8_codedAt 38 = .ok (.bipush 8, 2) := by decide +kernel
theorem dX8_codedAt_40 : decode cX8_codedAt 40 = .ok (.idiv, 1) := by decide +kernel
theorem dX8_codedAt_41 : decode cX8_codedAt 41 = .ok (.iaload, 1) := by decide +kernel
theorem dX8_codedAt_42 : decode cX8_codedAt 42 = .ok (.bipush 7, 2) := by decide +kernel
theorem dX8_codedAt_44 : decode cX8_codedAt 44 = .ok (.iload 4, 2) := by decide +kernel
theorem dX8_codedAt_46 : decode cX8_codedAt 46 = .ok (.bipush 8, 2) := by decide +kernel
theorem dX8_codedAt_48 : decode cX8_codedAt 48 = .ok (.irem, 1) := by decide +kernel
theorem dX8_codedAt_49 : decode cX8_codedAt 49 = .ok (.isub, 1) := by decide +kernel
theorem dX8_codedAt_50 : decode cX8_codedAt 50 = .ok (.ishr, 1) := by decide +kernel
theorem dX8_codedAt_51 : decode cX8_codedAt 51 = .ok (.iconst 1, 1) := by decide +kernel
theorem dX8_codedAt_52 : decode cX8_codedAt 52 = .ok (.iand, 1) := by decide +kernel
theorem dX8_codedAt_53 : decode cX8_codedAt 53 = .ok (.goto 4, 3) := by decide +kernel
theorem dX8_codedAt_56 : decode cX8_codedAt 56 = .ok (.iconst 0, 1) := by decide +kernel
theorem dX8_codedAt_57 : decode cX8_codedAt 57 = .ok (.iadd, 1) := by decide +kernel
theorem dX8_codedAt_58 : decode cX8_codedAt 58 = .ok (.istore_n 3, 1) := by decide +kernel
theorem dX8_codedAt_59 : decode cX8_codedAt 59 = .ok (.iinc 4 1, 3) := by decide +kernel
theorem dX8_codedAt_62 : decode cX8_codedAt 62 = .ok (.goto (-54), 3) := by decide +kernel
theorem dX8_codedAt_65 : decode cX8_codedAt 65 = .ok (.iload_n 3, 1) := by decide +kernel
theorem dX8_codedAt_66 : decode cX8_codedAt 66 = .ok (.invokestatic 200, 3) := by decide +kernel
theorem dX8_codedAt_69 : decode cX8_codedAt 69 = .ok (.ireturn, 1) := by decide +kernel
theorem dX8_body_0 : decode cX8_body 0 = .ok (.aload_n 0, 1) := by decide +kernel
theorem dX8_body_1 : decode cX8_body 1 = .ok (.getfield 163, 3) := by decide +kernel
theorem dX8_body_4 : decode cX8_body 4 = .ok (.iconst 0, 1) := by decide +kernel
theorem dX8_body_5 : decode cX8_body 5 = .ok (.iload_n 1, 1) := by decide +kernel
theorem dX8_body_6 : decode cX8_body 6 = .ok (.iastore, 1) := by decide +kernel
theorem dX8_body_7 : decode cX8_body 7 = .ok (.aload_n 0, 1) := by decide +kernel
theorem dX8_body_8 : decode cX8_body 8 = .ok (.getfield 163, 3) := by decide +kernel
theorem dX8_body_11 : decode cX8_body 11 = .ok (.iconst 1, 1) := by decide +kernel
theorem dX8_body_12 : decode cX8_body 12 = .ok (.iload_n 2, 1) := by decide +kernel
theorem dX8_body_13 : decode cX8_body 13 = .ok (.iastore, 1) := by decide +kernel
theorem dX8_body_14 : decode cX8_body 14 = .ok (.iconst 0, 1) := by decide +kernel
theorem dX8_body_15 : decode cX8_body 15 = .ok (.istore 5, 2) := by decide +kernel
theorem dX8_body_17 : decode cX8_body 17 = .ok (.iload 5, 2) := by decide +kernel
theorem dX8_body_19 : decode cX8_body 19 = .ok (.bipush 8, 2) := by decide +kernel
theorem dX8_body_21 : decode cX8_body 21 = .ok (.if_icmp .ge 33, 3) := by decide +kernel
theorem dX8_body_24 : decode cX8_body 24 = .ok (.aload_n 0, 1) := by decide +kernel
theorem dX8_body_25 : decode cX8_body 25 = .ok (.getfield 163, 3) := by decide +kernel
theorem dX8_body_28 : decode cX8_body 28 = .ok (.iconst 2, 1) := by decide +kernel
theorem dX8_body_29 : decode cX8_body 29 = .ok (.iload 5, 2) := by decide +kernel
theorem dX8_body_31 : decode cX8_body 31 = .ok (.iadd, 1) := by decide +kernel
theorem dX8_body_32 : decode cX8_body 32 = .ok (.lload_n 3, 1) := by decide +kernel
theorem dX8_body_33 : decode cX8_body 33 = .ok (.bipush 56, 2) := by decide +kernel
theorem dX8_body_35 : decode cX8_body 35 = .ok (.bipush 8, 2) := by decide +kernel
theorem dX8_body_37 : decode cX8_body 37 = .ok (.iload 5, 2) := by decide +kernel
theorem dX8_body_39 : decode cX8_body 39 = .ok (.imul, 1) := by decide +kernel
theorem dX8_body_40 : decode cX8_body 40 = .ok (.isub, 1) := by decide +kernel
theorem dX8_body_41 : decode cX8_body 41 = .ok (.lshr, 1) := by decide +kernel
theorem dX8_body_42 : decode cX8_body 42 = .ok (.ldc2_w 189, 3) := by decide +kernel
theorem dX8_body_45 : decode cX8_body 45 = .ok (.land, 1) := by decide +kernel
theorem dX8_body_46 : decode cX8_body 46 = .ok (.l2i, 1) := by decide +kernel
theorem dX8_body_47 : decode cX8_body 47 = .ok (.iastore, 1) := by decide +kernel
theorem dX8_body_48 : decode cX8_body 48 = .ok (.iinc 5 1, 3) := by decide +kernel
theorem dX8_body_51 : decode cX8_body 51 = .ok (.goto (-34), 3) := by decide +kernel
theorem dX8_body_54 : decode cX8_body 54 = .ok (.return_, 1) := by decide +kernel
theorem dX8_sealBody_0 : decode cX8_sealBody 0 = .ok (.aload_n 0, 1) := by decide +kernel
theorem dX8_sealBody_1 : decode cX8_sealBody 1 = .ok (.iload_n 1, 1) := by decide +kernel
theorem dX8_sealBody_2 : decode cX8_sealBody 2 = .ok (.invokevirtual 204, 3) := by decide +kernel
theorem dX8_sealBody_5 : decode cX8_sealBody 5 = .ok (.aload_n 0, 1) := by decide +kernel
theorem dX8_sealBody_6 : decode cX8_sealBody 6 = .ok (.iconst 0, 1) := by decide +kernel
theorem dX8_sealBody_7 : decode cX8_sealBody 7 = .ok (.putfield 180, 3) := by decide +kernel
theorem dX8_sealBody_10 : decode cX8_sealBody 10 = .ok (.iload_n 2, 1) := by decide +kernel
theorem dX8_sealBody_11 : decode cX8_sealBody 11 = .ok (.ifCond .lt 8, 3) := by decide +kernel
theorem dX8_sealBody_14 : decode cX8_sealBody 14 = .ok (.aload_n 0, 1) := by decide +kernel
theorem dX8_sealBody_15 : decode cX8_sealBody 15 = .ok (.iload_n 2, 1) := by decide +kernel
theorem dX8_sealBody_16 : decode cX8_sealBody 16 = .ok (.invokevirtual 194, 3) := by decide +kernel
theorem dX8_sealBody_19 : decode cX8_sealBody 19 = .ok (.iconst 0, 1) := by decide +kernel
theorem dX8_sealBody_20 : decode cX8_sealBody 20 = .ok (.istore_n 3, 1) := by decide +kernel
theorem dX8_sealBody_21 : decode cX8_sealBody 21 = .ok (.iload_n 3, 1) := by decide +kernel
theorem dX8_sealBody_22 : decode cX8_sealBody 22 = .ok (.bipush 10, 2) := by decide +kernel
theorem dX8_sealBody_24 : decode cX8_sealBody 24 = .ok (.if_icmp .ge 19, 3) := by decide +kernel
theorem dX8_sealBody_27 : decode cX8_sealBody 27 = .ok (.aload_n 0, 1) := by decide +kernel
theorem dX8_sealBody_28 : decode cX8_sealBody 28 = .ok (.aload_n 0, 1) := by decide +kernel
theorem dX8_sealBody_29 : decode cX8_sealBody 29 = .ok (.getfield 163, 3) := by decide +kernel
theorem dX8_sealBody_32 : decode cX8_sealBody 32 = .ok (.iload_n 3, 1) := by decide +kernel
theorem dX8_sealBody_33 : decode cX8_sealBody 33 = .ok (.iaload, 1) := by decide +kernel
theorem dX8_sealBody_34 : decode cX8_sealBody 34 = .ok (.invokevirtual 194, 3) := by decide +kernel
theorem dX8_sealBody_37 : decode cX8_sealBody 37 = .ok (.iinc 3 1, 3) := by decide +kernel
theorem dX8_sealBody_40 : decode cX8_sealBody 40 = .ok (.goto (-19), 3) := by decide +kernel
theorem dX8_sealBody_43 : decode cX8_sealBody 43 = .ok (.aload_n 0, 1) := by decide +kernel
theorem dX8_sealBody_44 : decode cX8_sealBody 44 = .ok (.invokevirtual 197, 3) := by decide +kernel
theorem dX8_sealBody_47 : decode cX8_sealBody 47 = .ok (.return_, 1) := by decide +kernel
theorem dX8_token_0 : decode cX8_token 0 = .ok (.aload_n 0, 1) := by decide +kernel
theorem dX8_token_1 : decode cX8_token 1 = .ok (.iload_n 1, 1) := by decide +kernel
theorem dX8_token_2 : decode cX8_token 2 = .ok (.bipush 84, 2) := by decide +kernel
theorem dX8_token_4 : decode cX8_token 4 = .ok (.invokevirtual 207, 3) := by decide +kernel
theorem dX8_token_7 : decode cX8_token 7 = .ok (.iconst 0, 1) := by decide +kernel
theorem dX8_token_8 : decode cX8_token 8 = .ok (.istore_n 2, 1) := by decide +kernel
theorem dX8_token_9 : decode cX8_token 9 = .ok (.iload_n 2, 1) := by decide +kernel
theorem dX8_token_10 : decode cX8_token 10 = .ok (.bipush 9, 2) := by decide +kernel
theorem dX8_token_12 : decode cX8_token 12 = .ok (.if_icmp .ge 21, 3) := by decide +kernel
theorem dX8_token_15 : decode cX8_token 15 = .ok (.aload_n 0, 1) := by decide +kernel
theorem dX8_token_16 : decode cX8_token 16 = .ok (.getfield 163, 3) := by decide +kernel
theorem dX8_token_19 : decode cX8_token 19 = .ok (.iload_n 2, 1) := by decide +kernel
theorem dX8_token_20 : decode cX8_token 20 = .ok (.aload_n 0, 1) := by decide +kernel
theorem dX8_token_21 : decode cX8_token 21 = .ok (.getfield 97, 3) := by decide +kernel
theorem dX8_token_24 : decode cX8_token 24 = .ok (.iload_n 2, 1) := by decide +kernel
theorem dX8_token_25 : decode cX8_token 25 = .ok (.iaload, 1) := by decide +kernel
theorem dX8_token_26 : decode cX8_token 26 = .ok (.iastore, 1) := by decide +kernel
theorem dX8_token_27 : decode cX8_token 27 = .ok (.iinc 2 1, 3) := by decide +kernel
theorem dX8_token_30 : decode cX8_token 30 = .ok (.goto (-21), 3) := by decide +kernel
theorem dX8_token_33 : decode cX8_token 33 = .ok (.return_, 1) := by decide +kernel
theorem dX8_issue_0 : decode cX8_issue 0 = .ok (.aload_n 0, 1) := by decide +kernel
theorem dX8_issue_1 : decode cX8_issue 1 = .ok (.getfield 118, 3) := by decide +kernel
theorem dX8_issue_4 : decode cX8_issue 4 = .ok (.iconst 1, 1) := by decide +kernel
theorem dX8_issue_5 : decode cX8_issue 5 = .ok (.isub, 1) := by decide +kernel
theorem dX8_issue_6 : decode cX8_issue 6 = .ok (.istore_n 2, 1) := by decide +kernel
theorem dX8_issue_7 : decode cX8_issue 7 = .ok (.aload_n 0, 1) := by decide +kernel
theorem dX8_issue_8 : decode cX8_issue 8 = .ok (.aload_n 0, 1) := by decide +kernel
theorem dX8_issue_9 : decode cX8_issue 9 = .ok (.getfield 122, 3) := by decide +kernel
theorem dX8_issue_12 : decode cX8_issue 12 = .ok (.iload_n 2, 1) := by decide +kernel
theorem dX8_issue_13 : decode cX8_issue 13 = .ok (.iaload, 1) := by decide +kernel
theorem dX8_issue_14 : decode cX8_issue 14 = .ok (.aload_n 0, 1) := by decide +kernel
theorem dX8_issue_15 : decode cX8_issue 15 = .ok (.getfield 145, 3) := by decide +kernel
theorem dX8_issue_18 : decode cX8_issue 18 = .ok (.iload_n 1, 1) := by decide +kernel
theorem dX8_issue_19 : decode cX8_issue 19 = .ok (.iaload, 1) := by decide +kernel
theorem dX8_issue_20 : decode cX8_issue 20 = .ok (.aload_n 0, 1) := by decide +kernel
theorem dX8_issue_21 : decode cX8_issue 21 = .ok (.getfield 148, 3) := by decide +kernel
theorem dX8_issue_24 : decode cX8_issue 24 = .ok (.iload_n 1, 1) := by decide +kernel
theorem dX8_issue_25 : decode cX8_issue 25 = .ok (.laload, 1) := by decide +kernel
theorem dX8_issue_26 : decode cX8_issue 26 = .ok (.invokevirtual 211, 3) := by decide +kernel
theorem dX8_issue_29 : decode cX8_issue 29 = .ok (.aload_n 0, 1) := by decide +kernel
theorem dX8_issue_30 : decode cX8_issue 30 = .ok (.iload_n 2, 1) := by decide +kernel
theorem dX8_issue_31 : decode cX8_issue 31 = .ok (.iconst (-1), 1) := by decide +kernel
theorem dX8_issue_32 : decode cX8_issue 32 = .ok (.invokevirtual 207, 3) := by decide +kernel
theorem dX8_issue_35 : decode cX8_issue 35 = .ok (.iconst 0, 1) := by decide +kernel
theorem dX8_issue_36 : decode cX8_issue 36 = .ok (.istore_n 3, 1) := by decide +kernel
theorem dX8_issue_37 : decode cX8_issue 37 = .ok (.iload_n 3, 1) := by decide +kernel
theorem dX8_issue_38 : decode cX8_issue 38 = .ok (.bipush 12, 2) := by decide +kernel
theorem dX8_issue_40 : decode cX8_issue 40 = .ok (.if_icmp .ge 24, 3) := by decide +kernel
theorem dX8_issue_43 : decode cX8_issue 43 = .ok (.aload_n 0, 1) := by decide +kernel
theorem dX8_issue_44 : decode cX8_issue 44 = .ok (.getfield 163, 3) := by decide +kernel
theorem dX8_issue_47 : decode cX8_issue 47 = .ok (.bipush 10, 2) := by decide +kernel
theorem dX8_issue_49 : decode cX8_issue 49 = .ok (.iload_n 3, 1) := by decide +kernel
theorem dX8_issue_50 : decode cX8_issue 50 = .ok (.iadd, 1) := by decide +kernel
theorem dX8_issue_51 : decode cX8_issue 51 = .ok (.aload_n 0, 1) := by decide +kernel
theorem dX8_issue_52 : decode cX8_issue 52 = .ok (.getfield 97, 3) := by decide +kernel
theorem dX8_issue_55 : decode cX8_issue 55 = .ok (.iload_n 3, 1) := by decide +kernel
theorem dX8_issue_56 : decode cX8_issue 56 = .ok (.iaload, 1) := by decide +kernel
theorem dX8_issue_57 : decode cX8_issue 57 = .ok (.iastore, 1) := by decide +kernel
theorem dX8_issue_58 : decode cX8_issue 58 = .ok (.iinc 3 1, 3) := by decide +kernel
theorem dX8_issue_61 : decode cX8_issue 61 = .ok (.goto (-24), 3) := by decide +kernel
theorem dX8_issue_64 : decode cX8_issue 64 = .ok (.iconst 0, 1) := by decide +kernel
theorem dX8_issue_65 : decode cX8_issue 65 = .ok (.istore_n 3, 1) := by decide +kernel
theorem dX8_issue_66 : decode cX8_issue 66 = .ok (.iload_n 3, 1) := by decide +kernel
theorem dX8_issue_67 : decode cX8_issue 67 = .ok (.bipush 30, 2) := by decide +kernel
theorem dX8_issue_69 : decode cX8_issue 69 = .ok (.if_icmp .ge 22, 3) := by decide +kernel
theorem dX8_issue_72 : decode cX8_issue 72 = .ok (.aload_n 0, 1) := by decide +kernel
theorem dX8_issue_73 : decode cX8_issue 73 = .ok (.getfield 160, 3) := by decide +kernel
theorem dX8_issue_76 : decode cX8_issue 76 = .ok (.iload_n 3, 1) := by decide +kernel
theorem dX8_issue_77 : decode cX8_issue 77 = .ok (.aload_n 0, 1) := by decide +kernel
theorem dX8_issue_78 : decode cX8_issue 78 = .ok (.iload_n 3, 1) := by decide +kernel
theorem dX8_issue_79 : decode cX8_issue 79 = .ok (.bipush 22, 2) := by decide +kernel
theorem dX8_issue_81 : decode cX8_issue 81 = .ok (.invokevirtual 215, 3) := by decide +kernel
theorem dX8_issue_84 : decode cX8_issue 84 = .ok (.iastore, 1) := by decide +kernel
theorem dX8_issue_85 : decode cX8_issue 85 = .ok (.iinc 3 1, 3) := by decide +kernel
theorem dX8_issue_88 : decode cX8_issue 88 = .ok (.goto (-22), 3) := by decide +kernel
theorem dX8_issue_91 : decode cX8_issue 91 = .ok (.aload_n 0, 1) := by decide +kernel
theorem dX8_issue_92 : decode cX8_issue 92 = .ok (.getfield 157, 3) := by decide +kernel
theorem dX8_issue_95 : decode cX8_issue 95 = .ok (.iconst 0, 1) := by decide +kernel
theorem dX8_issue_96 : decode cX8_issue 96 = .ok (.bipush 30, 2) := by decide +kernel
theorem dX8_issue_98 : decode cX8_issue 98 = .ok (.iastore, 1) := by decide +kernel
theorem dX8_issue_99 : decode cX8_issue 99 = .ok (.aload_n 0, 1) := by decide +kernel
theorem dX8_issue_100 : decode cX8_issue 100 = .ok (.iload_n 2, 1) := by decide +kernel
theorem dX8_issue_101 : decode cX8_issue 101 = .ok (.invokevirtual 218, 3) := by decide +kernel
theorem dX8_issue_104 : decode cX8_issue 104 = .ok (.iconst 0, 1) := by decide +kernel
theorem dX8_issue_105 : decode cX8_issue 105 = .ok (.istore_n 3, 1) := by decide +kernel
theorem dX8_issue_106 : decode cX8_issue 106 = .ok (.iload_n 3, 1) := by decide +kernel
theorem dX8_issue_107 : decode cX8_issue 107 = .ok (.bipush 12, 2) := by decide +kernel
theorem dX8_issue_109 : decode cX8_issue 109 = .ok (.if_icmp .ge 25, 3) := by decide +kernel
theorem dX8_issue_112 : decode cX8_issue 112 = .ok (.aload_n 0, 1) := by decide +kernel
theorem dX8_issue_113 : decode cX8_issue 113 = .ok (.getfield 160, 3) := by decide +kernel
theorem dX8_issue_116 : decode cX8_issue 116 = .ok (.bipush 40, 2) := by decide +kernel
theorem dX8_issue_118 : decode cX8_issue 118 = .ok (.iload_n 3, 1) := by decide +kernel
theorem dX8_issue_119 : decode cX8_issue 119 = .ok (.iadd, 1) := by decide +kernel
theorem dX8_issue_120 : decode cX8_issue 120 = .ok (.aload_n 0, 1) := by decide +kernel
theorem dX8_issue_121 : decode cX8_issue 121 = .ok (.iload_n 3, 1) := by decide +kernel
theorem dX8_issue_122 : decode cX8_issue 122 = .ok (.bipush 9, 2) := by decide +kernel
theorem dX8_issue_124 : decode cX8_issue 124 = .ok (.invokevirtual 215, 3) := by decide +kernel
theorem dX8_issue_127 : decode cX8_issue 127 = .ok (.iastore, 1) := by decide +kernel
theorem dX8_issue_128 : decode cX8_issue 128 = .ok (.iinc 3 1, 3) := by decide +kernel
theorem dX8_issue_131 : decode cX8_issue 131 = .ok (.goto (-25), 3) := by decide +kernel
theorem dX8_issue_134 : decode cX8_issue 134 = .ok (.aload_n 0, 1) := by decide +kernel
theorem dX8_issue_135 : decode cX8_issue 135 = .ok (.getfield 157, 3) := by decide +kernel
theorem dX8_issue_138 : decode cX8_issue 138 = .ok (.iconst 1, 1) := by decide +kernel
theorem dX8_issue_139 : decode cX8_issue 139 = .ok (.bipush 12, 2) := by decide +kernel
theorem dX8_issue_141 : decode cX8_issue 141 = .ok (.iastore, 1) := by decide +kernel
theorem dX8_issue_142 : decode cX8_issue 142 = .ok (.return_, 1) := by decide +kernel
theorem dX8_seed_0 : decode cX8_seed 0 = .ok (.aload_n 0, 1) := by decide +kernel
theorem dX8_seed_1 : decode cX8_seed 1 = .ok (.iconst 0, 1) := by decide +kernel
theorem dX8_seed_2 : decode cX8_seed 2 = .ok (.putfield 166, 3) := by decide +kernel
theorem dX8_seed_5 : decode cX8_seed 5 = .ok (.aload_n 0, 1) := by decide +kernel
theorem dX8_seed_6 : decode cX8_seed 6 = .ok (.lload_n 1, 1) := by decide +kernel
theorem dX8_seed_7 : decode cX8_seed 7 = .ok (.putfield 186, 3) := by decide +kernel
theorem dX8_seed_10 : decode cX8_seed 10 = .ok (.aload_n 0, 1) := by decide +kernel
theorem dX8_seed_11 : decode cX8_seed 11 = .ok (.lconst 0, 1) := by decide +kernel
theorem dX8_seed_12 : decode cX8_seed 12 = .ok (.putfield 191, 3) := by decide +kernel
theorem dX8_seed_15 : decode cX8_seed 15 = .ok (.return_, 1) := by decide +kernel
theorem dX8_pass_0 : decode cX8_pass 0 = .ok (.aload_n 0, 1) := by decide +kernel
theorem dX8_pass_1 : decode cX8_pass 1 = .ok (.lload_n 1, 1) := by decide +kernel
theorem dX8_pass_2 : decode cX8_pass 2 = .ok (.lconst 1, 1) := by decide +kernel
theorem dX8_pass_3 : decode cX8_pass 3 = .ok (.ldc2_w 221, 3) := by decide +kernel
theorem dX8_pass_6 : decode cX8_pass 6 = .ok (.invokestatic 223, 3) := by decide +kernel
theorem dX8_pass_9 : decode cX8_pass 9 = .ok (.ifCond .eq 7, 3) := by decide +kernel
theorem dX8_pass_12 : decode cX8_pass 12 = .ok (.iconst 0, 1) := by decide +kernel
theorem dX8_pass_13 : decode cX8_pass 13 = .ok (.goto 4, 3) := by decide +kernel
theorem dX8_pass_16 : decode cX8_pass 16 = .ok (.iconst 1, 1) := by decide +kernel
theorem dX8_pass_17 : decode cX8_pass 17 = .ok (.invokevirtual 227, 3) := by decide +kernel
theorem dX8_pass_20 : decode cX8_pass 20 = .ok (.ifCond .eq 5, 3) := by decide +kernel
theorem dX8_pass_23 : decode cX8_pass 23 = .ok (.lconst 0, 1) := by decide +kernel
theorem dX8_pass_24 : decode cX8_pass 24 = .ok (.lreturn, 1) := by decide +kernel
theorem dX8_pass_25 : decode cX8_pass 25 = .ok (.aload_n 0, 1) := by decide +kernel
theorem dX8_pass_26 : decode cX8_pass 26 = .ok (.aload_n 0, 1) := by decide +kernel
theorem dX8_pass_27 : decode cX8_pass 27 = .ok (.getfield 231, 3) := by decide +kernel
theorem dX8_pass_30 : decode cX8_pass 30 = .ok (.lload_n 1, 1) := by decide +kernel
theorem dX8_pass_31 : decode cX8_pass 31 = .ok (.ladd, 1) := by decide +kernel
theorem dX8_pass_32 : decode cX8_pass 32 = .ok (.putfield 231, 3) := by decide +kernel
theorem dX8_pass_35 : decode cX8_pass 35 = .ok (.aload_n 0, 1) := by decide +kernel
theorem dX8_pass_36 : decode cX8_pass 36 = .ok (.getfield 231, 3) := by decide +kernel
theorem dX8_pass_39 : decode cX8_pass 39 = .ok (.lreturn, 1) := by decide +kernel
theorem dX8_limits_0 : decode cX8_limits 0 = .ok (.ldc2_w 234, 3) := by decide +kernel
theorem dX8_limits_3 : decode cX8_limits 3 = .ok (.lstore 7, 2) := by decide +kernel
theorem dX8_limits_5 : decode cX8_limits 5 = .ok (.aload_n 0, 1) := by decide +kernel
theorem dX8_limits_6 : decode cX8_limits 6 = .ok (.lload_n 1, 1) := by decide +kernel
theorem dX8_limits_7 : decode cX8_limits 7 = .ok (.lconst 1, 1) := by decide +kernel
theorem dX8_limits_8 : decode cX8_limits 8 = .ok (.lload 7, 2) := by decide +kernel
theorem dX8_limits_10 : decode cX8_limits 10 = .ok (.invokestatic 223, 3) := by decide +kernel
theorem dX8_limits_13 : decode cX8_limits 13 = .ok (.ifCond .eq 28, 3) := by decide +kernel
theorem dX8_limits_16 : decode cX8_limits 16 = .ok (.lload_n 3, 1) := by decide +kernel
theorem dX8_limits_17 : decode cX8_limits 17 = .ok (.lconst 1, 1) := by decide +kernel
theorem dX8_limits_18 : decode cX8_limits 18 = .ok (.lload 7, 2) := by decide +kernel
theorem dX8_limits_20 : decode cX8_limits 20 = .ok (.invokestatic 223, 3) := by decide +kernel
theorem dX8_limits_23 : decode cX8_limits 23 = .ok (.ifCond .eq 18, 3) := by decide +kernel
theorem dX8_limits_26 : decode cX8_limits 26 = .ok (.lload 5, 2) := by decide +kernel
theorem dX8_limits_28 : decode cX8_limits 28 = .ok (.lconst 1, 1) := by decide +kernel
theorem dX8_limits_29 : decode cX8_limits 29 = .ok (.lload 7, 2) := by decide +kernel
theorem dX8_limits_31 : decode cX8_limits 31 = .ok (.invokestatic 223, 3) := by decide +kernel
theorem dX8_limits_34 : decode cX8_limits 34 = .ok (.ifCond .eq 7, 3) := by decide +kernel
theorem dX8_limits_37 : decode cX8_limits 37 = .ok (.iconst 0, 1) := by decide +kernel
theorem dX8_limits_38 : decode cX8_limits 38 = .ok (.goto 4, 3) := by decide +kernel
theorem dX8_limits_41 : decode cX8_limits 41 = .ok (.iconst 1, 1) := by decide +kernel
theorem dX8_limits_42 : decode cX8_limits 42 = .ok (.invokevirtual 227, 3) := by decide +kernel
theorem dX8_limits_45 : decode cX8_limits 45 = .ok (.ifCond .eq 4, 3) := by decide +kernel
theorem dX8_limits_48 : decode cX8_limits 48 = .ok (.return_, 1) := by decide +kernel
theorem dX8_limits_49 : decode cX8_limits 49 = .ok (.aload_n 0, 1) := by decide +kernel
theorem dX8_limits_50 : decode cX8_limits 50 = .ok (.lload_n 1, 1) := by decide +kernel
theorem dX8_limits_51 : decode cX8_limits 51 = .ok (.putfield 108, 3) := by decide +kernel
theorem dX8_limits_54 : decode cX8_limits 54 = .ok (.aload_n 0, 1) := by decide +kernel
theorem dX8_limits_55 : decode cX8_limits 55 = .ok (.lload_n 3, 1) := by decide +kernel
theorem dX8_limits_56 : decode cX8_limits 56 = .ok (.putfield 112, 3) := by decide +kernel
theorem dX8_limits_59 : decode cX8_limits 59 = .ok (.aload_n 0, 1) := by decide +kernel
theorem dX8_limits_60 : decode cX8_limits 60 = .ok (.lload 5, 2) := by decide +kernel
theorem dX8_limits_62 : decode cX8_limits 62 = .ok (.putfield 115, 3) := by decide +kernel
theorem dX8_limits_65 : decode cX8_limits 65 = .ok (.return_, 1) := by decide +kernel
theorem dX8_isLive_0 : decode cX8_isLive 0 = .ok (.iload_n 1, 1) := by decide +kernel
theorem dX8_isLive_1 : decode cX8_isLive 1 = .ok (.aload_n 0, 1) := by decide +kernel
theorem dX8_isLive_2 : decode cX8_isLive 2 = .ok (.getfield 118, 3) := by decide +kernel
theorem dX8_isLive_5 : decode cX8_isLive 5 = .ok (.iconst 1, 1) := by decide +kernel
theorem dX8_isLive_6 : decode cX8_isLive 6 = .ok (.isub, 1) := by decide +kernel
theorem dX8_isLive_7 : decode cX8_isLive 7 = .ok (.if_icmp .eq 22, 3) := by decide +kernel
theorem dX8_isLive_10 : decode cX8_isLive 10 = .ok (.aload_n 0, 1) := by decide +kernel
theorem dX8_isLive_11 : decode cX8_isLive 11 = .ok (.getfield 231, 3) := by decide +kernel
theorem dX8_isLive_14 : decode cX8_isLive 14 = .ok (.aload_n 0, 1) := by decide +kernel
theorem dX8_isLive_15 : decode cX8_isLive 15 = .ok (.getfield 128, 3) := by decide +kernel
theorem dX8_isLive_18 : decode cX8_isLive 18 = .ok (.iload_n 1, 1) := by decide +kernel
theorem dX8_isLive_19 : decode cX8_isLive 19 = .ok (.laload, 1) := by decide +kernel
theorem dX8_isLive_20 : decode cX8_isLive 20 = .ok (.lsub, 1) := by decide +kernel
theorem dX8_isLive_21 : decode cX8_isLive 21 = .ok (.aload_n 0, 1) := by decide +kernel
theorem dX8_isLive_22 : decode cX8_isLive 22 = .ok (.getfield 108, 3) := by decide +kernel
theorem dX8_isLive_25 : decode cX8_isLive 25 = .ok (.lcmp, 1) := by decide +kernel
theorem dX8_isLive_26 : decode cX8_isLive 26 = .ok (.ifCond .ge 7, 3) := by decide +kernel
theorem dX8_isLive_29 : decode cX8_isLive 29 = .ok (.iconst 1, 1) := by decide +kernel
theorem dX8_isLive_30 : decode cX8_isLive 30 = .ok (.goto 4, 3) := by decide +kernel
theorem dX8_isLive_33 : decode cX8_isLive 33 = .ok (.iconst 0, 1) := by decide +kernel
theorem dX8_isLive_34 : decode cX8_isLive 34 = .ok (.ireturn, 1) := by decide +kernel
theorem dX8_user_0 : decode cX8_user 0 = .ok (.aload_n 0, 1) := by decide +kernel
theorem dX8_user_1 : decode cX8_user 1 = .ok (.iload_n 1, 1) := by decide +kernel
theorem dX8_user_2 : decode cX8_user 2 = .ok (.i2l, 1) := by decide +kernel
theorem dX8_user_3 : decode cX8_user 3 = .ok (.lconst 0, 1) := by decide +kernel
theorem dX8_user_4 : decode cX8_user 4 = .ok (.ldc2_w 236, 3) := by decide +kernel
theorem dX8_user_7 : decode cX8_user 7 = .ok (.invokestatic 223, 3) := by decide +kernel
theorem dX8_user_10 : decode cX8_user 10 = .ok (.ifCond .eq 7, 3) := by decide +kernel
theorem dX8_user_13 : decode cX8_user 13 = .ok (.iconst 0, 1) := by decide +kernel
theorem dX8_user_14 : decode cX8_user 14 = .ok (.goto 4, 3) := by decide +kernel
theorem dX8_user_17 : decode cX8_user 17 = .ok (.iconst 1, 1) := by decide +kernel
theorem dX8_user_18 : decode cX8_user 18 = .ok (.invokevirtual 227, 3) := by decide +kernel
theorem dX8_user_21 : decode cX8_user 21 = .ok (.ifCond .eq 4, 3) := by decide +kernel
theorem dX8_user_24 : decode cX8_user 24 = .ok (.return_, 1) := by decide +kernel
theorem dX8_user_25 : decode cX8_user 25 = .ok (.aload_n 0, 1) := by decide +kernel
theorem dX8_user_26 : decode cX8_user 26 = .ok (.getfield 132, 3) := by decide +kernel
theorem dX8_user_29 : decode cX8_user 29 = .ok (.iload_n 1, 1) := by decide +kernel
theorem dX8_user_30 : decode cX8_user 30 = .ok (.iconst 1, 1) := by decide +kernel
theorem dX8_user_31 : decode cX8_user 31 = .ok (.bastore, 1) := by decide +kernel
theorem dX8_user_32 : decode cX8_user 32 = .ok (.aload_n 0, 1) := by decide +kernel
theorem dX8_user_33 : decode cX8_user 33 = .ok (.getfield 136, 3) := by decide +kernel
theorem dX8_user_36 : decode cX8_user 36 = .ok (.iload_n 1, 1) := by decide +kernel
theorem dX8_user_37 : decode cX8_user 37 = .ok (.iload_n 2, 1) := by decide +kernel
theorem dX8_user_38 : decode cX8_user 38 = .ok (.iastore, 1) := by decide +kernel
theorem dX8_user_39 : decode cX8_user 39 = .ok (.aload_n 0, 1) := by decide +kernel
theorem dX8_user_40 : decode cX8_user 40 = .ok (.getfield 139, 3) := by decide +kernel
theorem dX8_user_43 : decode cX8_user 43 = .ok (.iload_n 1, 1) := by decide +kernel
theorem dX8_user_44 : decode cX8_user 44 = .ok (.iload_n 3, 1) := by decide +kernel
theorem dX8_user_45 : decode cX8_user 45 = .ok (.iastore, 1) := by decide +kernel
theorem dX8_user_46 : decode cX8_user 46 = .ok (.return_, 1) := by decide +kernel
theorem dX8_isOld_0 : decode cX8_isOld 0 = .ok (.aload_n 0, 1) := by decide +kernel
theorem dX8_isOld_1 : decode cX8_isOld 1 = .ok (.getfield 231, 3) := by decide +kernel
theorem dX8_isOld_4 : decode cX8_isOld 4 = .ok (.aload_n 0, 1) := by decide +kernel
theorem dX8_isOld_5 : decode cX8_isOld 5 = .ok (.getfield 151, 3) := by decide +kernel
theorem dX8_isOld_8 : decode cX8_isOld 8 = .ok (.iload_n 1, 1) := by decide +kernel
theorem dX8_isOld_9 : decode cX8_isOld 9 = .ok (.laload, 1) := by decide +kernel
theorem dX8_isOld_10 : decode cX8_isOld 10 = .ok (.lsub, 1) := by decide +kernel
theorem dX8_isOld_11 : decode cX8_isOld 11 = .ok (.aload_n 0, 1) := by decide +kernel
theorem dX8_isOld_12 : decode cX8_isOld 12 = .ok (.getfield 112, 3) := by decide +kernel
theorem dX8_isOld_15 : decode cX8_isOld 15 = .ok (.lcmp, 1) := by decide +kernel
theorem dX8_isOld_16 : decode cX8_isOld 16 = .ok (.ifCond .lt 7, 3) := by decide +kernel
theorem dX8_isOld_19 : decode cX8_isOld 19 = .ok (.iconst 1, 1) := by decide +kernel
theorem dX8_isOld_20 : decode cX8_isOld 20 = .ok (.goto 4, 3) := by decide +kernel
theorem dX8_isOld_23 : decode cX8_isOld 23 = .ok (.iconst 0, 1) := by decide +kernel
theorem dX8_isOld_24 : decode cX8_isOld 24 = .ok (.ireturn, 1) := by decide +kernel
theorem dX8_isIdle_0 : decode cX8_isIdle 0 = .ok (.aload_n 0, 1) := by decide +kernel
theorem dX8_isIdle_1 : decode cX8_isIdle 1 = .ok (.getfield 231, 3) := by decide +kernel
theorem dX8_isIdle_4 : decode cX8_isIdle 4 = .ok (.aload_n 0, 1) := by decide +kernel
theorem dX8_isIdle_5 : decode cX8_isIdle 5 = .ok (.getfield 154, 3) := by decide +kernel
theorem dX8_isIdle_8 : decode cX8_isIdle 8 = .ok (.iload_n 1, 1) := by decide +kernel
theorem dX8_isIdle_9 : decode cX8_isIdle 9 = .ok (.laload, 1) := by decide +kernel
theorem dX8_isIdle_10 : decode cX8_isIdle 10 = .ok (.lsub, 1) := by decide +kernel
theorem dX8_isIdle_11 : decode cX8_isIdle 11 = .ok (.aload_n 0, 1) := by decide +kernel
theorem dX8_isIdle_12 : decode cX8_isIdle 12 = .ok (.getfield 115, 3) := by decide +kernel
theorem dX8_isIdle_15 : decode cX8_isIdle 15 = .ok (.lcmp, 1) := by decide +kernel
theorem dX8_isIdle_16 : decode cX8_isIdle 16 = .ok (.ifCond .lt 7, 3) := by decide +kernel
theorem dX8_isIdle_19 : decode cX8_isIdle 19 = .ok (.iconst 1, 1) := by decide +kernel
theorem dX8_isIdle_20 : decode cX8_isIdle 20 = .ok (.goto 4, 3) := by decide +kernel
theorem dX8_isIdle_23 : decode cX8_isIdle 23 = .ok (.iconst 0, 1) := by decide +kernel
theorem dX8_isIdle_24 : decode cX8_isIdle 24 = .ok (.ireturn, 1) := by decide +kernel
theorem dX8_login_0 : decode cX8_login 0 = .ok (.aload_n 0, 1) := by decide +kernel
theorem dX8_login_1 : decode cX8_login 1 = .ok (.iload_n 1, 1) := by decide +kernel
theorem dX8_login_2 : decode cX8_login 2 = .ok (.i2l, 1) := by decide +kernel
theorem dX8_login_3 : decode cX8_login 3 = .ok (.lconst 0, 1) := by decide +kernel
theorem dX8_login_4 : decode cX8_login 4 = .ok (.ldc2_w 236, 3) := by decide +kernel
theorem dX8_login_7 : decode cX8_login 7 = .ok (.invokestatic 223, 3) := by decide +kernel
theorem dX8_login_10 : decode cX8_login 10 = .ok (.ifCond .eq 7, 3) := by decide +kernel
theorem dX8_login_13 : decode cX8_login 13 = .ok (.iconst 0, 1) := by decide +kernel
theorem dX8_login_14 : decode cX8_login 14 = .ok (.goto 4, 3) := by decide +kernel
theorem dX8_login_17 : decode cX8_login 17 = .ok (.iconst 1, 1) := by decide +kernel
theorem dX8_login_18 : decode cX8_login 18 = .ok (.invokevirtual 227, 3) := by decide +kernel
theorem dX8_login_21 : decode cX8_login 21 = .ok (.ifCond .eq 5, 3) := by decide +kernel
theorem dX8_login_24 : decode cX8_login 24 = .ok (.iconst 0, 1) := by decide +kernel
theorem dX8_login_25 : decode cX8_login 25 = .ok (.ireturn, 1) := by decide +kernel
theorem dX8_login_26 : decode cX8_login 26 = .ok (.aload_n 0, 1) := by decide +kernel
theorem dX8_login_27 : decode cX8_login 27 = .ok (.getfield 132, 3) := by decide +kernel
theorem dX8_login_30 : decode cX8_login 30 = .ok (.iload_n 1, 1) := by decide +kernel
theorem dX8_login_31 : decode cX8_login 31 = .ok (.baload, 1) := by decide +kernel
theorem dX8_login_32 : decode cX8_login 32 = .ok (.ifCond .eq 23, 3) := by decide +kernel
theorem dX8_login_35 : decode cX8_login 35 = .ok (.aload_n 0, 1) := by decide +kernel
theorem dX8_login_36 : decode cX8_login 36 = .ok (.getfield 136, 3) := by decide +kernel
theorem dX8_login_39 : decode cX8_login 39 = .ok (.iload_n 1, 1) := by decide +kernel
theorem dX8_login_40 : decode cX8_login 40 = .ok (.iaload, 1) := by decide +kernel
theorem dX8_login_41 : decode cX8_login 41 = .ok (.iload_n 2, 1) := by decide +kernel
theorem dX8_login_42 : decode cX8_login 42 = .ok (.if_icmp .ne 13, 3) := by decide +kernel
theorem dX8_login_45 : decode cX8_login 45 = .ok (.aload_n 0, 1) := by decide +kernel
theorem dX8_login_46 : decode cX8_login 46 = .ok (.getfield 139, 3) := by decide +kernel
theorem dX8_login_49 : decode cX8_login 49 = .ok (.iload_n 1, 1) := by decide +kernel
theorem dX8_login_50 : decode cX8_login 50 = .ok (.iaload, 1) := by decide +kernel
theorem dX8_login_51 : decode cX8_login 51 = .ok (.iload_n 3, 1) := by decide +kernel
theorem dX8_login_52 : decode cX8_login 52 = .ok (.if_icmp .eq 6, 3) := by decide +kernel
theorem dX8_login_55 : decode cX8_login 55 = .ok (.bipush (-9), 2) := by decide +kernel
theorem dX8_login_57 : decode cX8_login 57 = .ok (.ireturn, 1) := by decide +kernel
theorem dX8_login_58 : decode cX8_login 58 = .ok (.iconst (-1), 1) := by decide +kernel
theorem dX8_login_59 : decode cX8_login 59 = .ok (.istore 4, 2) := by decide +kernel
theorem dX8_login_61 : decode cX8_login 61 = .ok (.bipush 7, 2) := by decide +kernel
theorem dX8_login_63 : decode cX8_login 63 = .ok (.istore 5, 2) := by decide +kernel
theorem dX8_login_65 : decode cX8_login 65 = .ok (.iload 5, 2) := by decide +kernel
theorem dX8_login_67 : decode cX8_login 67 = .ok (.ifCond .lt 68, 3) := by decide +kernel
theorem dX8_login_70 : decode cX8_login 70 = .ok (.aload_n 0, 1) := by decide +kernel
theorem dX8_login_71 : decode cX8_login 71 = .ok (.getfield 142, 3) := by decide +kernel
theorem dX8_login_74 : decode cX8_login 74 = .ok (.iload 5, 2) := by decide +kernel
theorem dX8_login_76 : decode cX8_login 76 = .ok (.aload_n 0, 1) := by decide +kernel
theorem dX8_login_77 : decode cX8_login 77 = .ok (.getfield 142, 3) := by decide +kernel
theorem dX8_login_80 : decode cX8_login 80 = .ok (.iload 5, 2) := by decide +kernel
theorem dX8_login_82 : decode cX8_login 82 = .ok (.baload, 1) := by decide +kernel
theorem dX8_login_83 : decode cX8_login 83 = .ok (.ifCond .eq 25, 3) := by decide +kernel
theorem dX8_login_86 : decode cX8_login 86 = .ok (.aload_n 0, 1) := by decide +kernel
theorem dX8_login_87 : decode cX8_login 87 = .ok (.iload 5, 2) := by decide +kernel
theorem dX8_login_89 : decode cX8_login 89 = .ok (.invokevirtual 238, 3) := by decide +kernel
theorem dX8_login_92 : decode cX8_login 92 = .ok (.ifCond .ne 16, 3) := by decide +kernel
theorem dX8_login_95 : decode cX8_login 95 = .ok (.aload_n 0, 1) := by decide +kernel
theorem dX8_login_96 : decode cX8_login 96 = .ok (.iload 5, 2) := by decide +kernel
theorem dX8_login_98 : decode cX8_login 98 = .ok (.invokevirtual 241, 3) := by decide +kernel
theorem dX8_login_101 : decode cX8_login 101 = .ok (.ifCond .ne 7, 3) := by decide +kernel
theorem dX8_login_104 : decode cX8_login 104 = .ok (.iconst 1, 1) := by decide +kernel
theorem dX8_login_105 : decode cX8_login 105 = .ok (.goto 4, 3) := by decide +kernel
theorem dX8_login_108 : decode cX8_login 108 = .ok (.iconst 0, 1) := by decide +kernel
theorem dX8_login_109 : decode cX8_login 109 = .ok (.bastore, 1) := by decide +kernel
theorem dX8_login_110 : decode cX8_login 110 = .ok (.aload_n 0, 1) := by decide +kernel
theorem dX8_login_111 : decode cX8_login 111 = .ok (.getfield 142, 3) := by decide +kernel
theorem dX8_login_114 : decode cX8_login 114 = .ok (.iload 5, 2) := by decide +kernel
theorem dX8_login_116 : decode cX8_login 116 = .ok (.baload, 1) := by decide +kernel
theorem dX8_login_117 : decode cX8_login 117 = .ok (.ifCond .eq 8, 3) := by decide +kernel
theorem dX8_login_120 : decode cX8_login 120 = .ok (.iload 4, 2) := by decide +kernel
theorem dX8_login_122 : decode cX8_login 122 = .ok (.goto 5, 3) := by decide +kernel
theorem dX8_login_125 : decode cX8_login 125 = .ok (.iload 5, 2) := by decide +kernel
theorem dX8_login_127 : decode cX8_login 127 = .ok (.istore 4, 2) := by decide +kernel
theorem dX8_login_129 : decode cX8_login 129 = .ok (.iinc 5 (-1), 3) := by decide +kernel
theorem dX8_login_132 : decode cX8_login 132 = .ok (.goto (-67), 3) := by decide +kernel
theorem dX8_login_135 : decode cX8_login 135 = .ok (.iload 4, 2) := by decide +kernel
theorem dX8_login_137 : decode cX8_login 137 = .ok (.ifCond .ge 6, 3) := by decide +kernel
theorem dX8_login_140 : decode cX8_login 140 = .ok (.bipush (-10), 2) := by decide +kernel
theorem dX8_login_142 : decode cX8_login 142 = .ok (.ireturn, 1) := by decide +kernel
theorem dX8_login_143 : decode cX8_login 143 = .ok (.aload_n 0, 1) := by decide +kernel
theorem dX8_login_144 : decode cX8_login 144 = .ok (.getfield 142, 3) := by decide +kernel
theorem dX8_login_147 : decode cX8_login 147 = .ok (.iload 4, 2) := by decide +kernel
theorem dX8_login_149 : decode cX8_login 149 = .ok (.iconst 1, 1) := by decide +kernel
theorem dX8_login_150 : decode cX8_login 150 = .ok (.bastore, 1) := by decide +kernel
theorem dX8_login_151 : decode cX8_login 151 = .ok (.aload_n 0, 1) := by decide +kernel
theorem dX8_login_152 : decode cX8_login 152 = .ok (.getfield 145, 3) := by decide +kernel
theorem dX8_login_155 : decode cX8_login 155 = .ok (.iload 4, 2) := by decide +kernel
theorem dX8_login_157 : decode cX8_login 157 = .ok (.iload_n 1, 1) := by decide +kernel
theorem dX8_login_158 : decode cX8_login 158 = .ok (.iastore, 1) := by decide +kernel
theorem dX8_login_159 : decode cX8_login 159 = .ok (.aload_n 0, 1) := by decide +kernel
theorem dX8_login_160 : decode cX8_login 160 = .ok (.getfield 148, 3) := by decide +kernel
theorem dX8_login_163 : decode cX8_login 163 = .ok (.iload 4, 2) := by decide +kernel
theorem dX8_login_165 : decode cX8_login 165 = .ok (.aload_n 0, 1) := by decide +kernel
theorem dX8_login_166 : decode cX8_login 166 = .ok (.invokevirtual 244, 3) := by decide +kernel
theorem dX8_login_169 : decode cX8_login 169 = .ok (.lastore, 1) := by decide +kernel
theorem dX8_login_170 : decode cX8_login 170 = .ok (.aload_n 0, 1) := by decide +kernel
theorem dX8_login_171 : decode cX8_login 171 = .ok (.dup, 1) := by decide +kernel
theorem dX8_login_172 : decode cX8_login 172 = .ok (.getfield 191, 3) := by decide +kernel
theorem dX8_login_175 : decode cX8_login 175 = .ok (.lconst 1, 1) := by decide +kernel
theorem dX8_login_176 : decode cX8_login 176 = .ok (.ladd, 1) := by decide +kernel
theorem dX8_login_177 : decode cX8_login 177 = .ok (.putfield 191, 3) := by decide +kernel
theorem dX8_login_180 : decode cX8_login 180 = .ok (.aload_n 0, 1) := by decide +kernel
theorem dX8_login_181 : decode cX8_login 181 = .ok (.getfield 151, 3) := by decide +kernel
theorem dX8_login_184 : decode cX8_login 184 = .ok (.iload 4, 2) := by decide +kernel
theorem dX8_login_186 : decode cX8_login 186 = .ok (.aload_n 0, 1) := by decide +kernel
theorem dX8_login_187 : decode cX8_login 187 = .ok (.getfield 231, 3) := by decide +kernel
theorem dX8_login_190 : decode cX8_login 190 = .ok (.lastore, 1) := by decide +kernel
theorem dX8_login_191 : decode cX8_login 191 = .ok (.aload_n 0, 1) := by decide +kernel
theorem dX8_login_192 : decode cX8_login 192 = .ok (.getfield 154, 3) := by decide +kernel
theorem dX8_login_195 : decode cX8_login 195 = .ok (.iload 4, 2) := by decide +kernel
theorem dX8_login_197 : decode cX8_login 197 = .ok (.aload_n 0, 1) := by decide +kernel
theorem dX8_login_198 : decode cX8_login 198 = .ok (.getfield 231, 3) := by decide +kernel
theorem dX8_login_201 : decode cX8_login 201 = .ok (.lastore, 1) := by decide +kernel
theorem dX8_login_202 : decode cX8_login 202 = .ok (.aload_n 0, 1) := by decide +kernel
theorem dX8_login_203 : decode cX8_login 203 = .ok (.iload 4, 2) := by decide +kernel
theorem dX8_login_205 : decode cX8_login 205 = .ok (.invokevirtual 248, 3) := by decide +kernel
theorem dX8_login_208 : decode cX8_login 208 = .ok (.iload 4, 2) := by decide +kernel
theorem dX8_login_210 : decode cX8_login 210 = .ok (.ireturn, 1) := by decide +kernel
theorem dX8_isForm_0 : decode cX8_isForm 0 = .ok (.aload_n 0, 1) := by decide +kernel
theorem dX8_isForm_1 : decode cX8_isForm 1 = .ok (.getfield 157, 3) := by decide +kernel
theorem dX8_isForm_4 : decode cX8_isForm 4 = .ok (.iconst 0, 1) := by decide +kernel
theorem dX8_isForm_5 : decode cX8_isForm 5 = .ok (.iaload, 1) := by decide +kernel
theorem dX8_isForm_6 : decode cX8_isForm 6 = .ok (.bipush 30, 2) := by decide +kernel
theorem dX8_isForm_8 : decode cX8_isForm 8 = .ok (.if_icmp .eq 5, 3) := by decide +kernel
theorem dX8_isForm_11 : decode cX8_isForm 11 = .ok (.iconst 0, 1) := by decide +kernel
theorem dX8_isForm_12 : decode cX8_isForm 12 = .ok (.ireturn, 1) := by decide +kernel
theorem dX8_isForm_13 : decode cX8_isForm 13 = .ok (.iconst 0, 1) := by decide +kernel
theorem dX8_isForm_14 : decode cX8_isForm 14 = .ok (.istore_n 1, 1) := by decide +kernel
theorem dX8_isForm_15 : decode cX8_isForm 15 = .ok (.iload_n 1, 1) := by decide +kernel
theorem dX8_isForm_16 : decode cX8_isForm 16 = .ok (.bipush 24, 2) := by decide +kernel
theorem dX8_isForm_18 : decode cX8_isForm 18 = .ok (.if_icmp .ge 16, 3) := by decide +kernel
theorem dX8_isForm_21 : decode cX8_isForm 21 = .ok (.aload_n 0, 1) := by decide +kernel
theorem dX8_isForm_22 : decode cX8_isForm 22 = .ok (.getfield 163, 3) := by decide +kernel
theorem dX8_isForm_25 : decode cX8_isForm 25 = .ok (.iload_n 1, 1) := by decide +kernel
theorem dX8_isForm_26 : decode cX8_isForm 26 = .ok (.iconst 0, 1) := by decide +kernel
theorem dX8_isForm_27 : decode cX8_isForm 27 = .ok (.iastore, 1) := by decide +kernel
theorem dX8_isForm_28 : decode cX8_isForm 28 = .ok (.iinc 1 1, 3) := by decide +kernel
theorem dX8_isForm_31 : decode cX8_isForm 31 = .ok (.goto (-16), 3) := by decide +kernel
theorem dX8_isForm_34 : decode cX8_isForm 34 = .ok (.iconst 0, 1) := by decide +kernel
theorem dX8_isForm_35 : decode cX8_isForm 35 = .ok (.istore_n 1, 1) := by decide +kernel
theorem dX8_isForm_36 : decode cX8_isForm 36 = .ok (.iload_n 1, 1) := by decide +kernel
theorem dX8_isForm_37 : decode cX8_isForm 37 = .ok (.bipush 30, 2) := by decide +kernel
theorem dX8_isForm_39 : decode cX8_isForm 39 = .ok (.if_icmp .ge 84, 3) := by decide +kernel
theorem dX8_isForm_42 : decode cX8_isForm 42 = .ok (.aload_n 0, 1) := by decide +kernel
theorem dX8_isForm_43 : decode cX8_isForm 43 = .ok (.getfield 160, 3) := by decide +kernel
theorem dX8_isForm_46 : decode cX8_isForm 46 = .ok (.iload_n 1, 1) := by decide +kernel
theorem dX8_isForm_47 : decode cX8_isForm 47 = .ok (.iaload, 1) := by decide +kernel
theorem dX8_isForm_48 : decode cX8_isForm 48 = .ok (.invokestatic 251, 3) := by decide +kernel
theorem dX8_isForm_51 : decode cX8_isForm 51 = .ok (.istore_n 2, 1) := by decide +kernel
theorem dX8_isForm_52 : decode cX8_isForm 52 = .ok (.iload_n 2, 1) := by decide +kernel
theorem dX8_isForm_53 : decode cX8_isForm 53 = .ok (.ifCond .ge 5, 3) := by decide +kernel
theorem dX8_isForm_56 : decode cX8_isForm 56 = .ok (.iconst 0, 1) := by decide +kernel
theorem dX8_isForm_57 : decode cX8_isForm 57 = .ok (.ireturn, 1) := by decide +kernel
theorem dX8_isForm_58 : decode cX8_isForm 58 = .ok (.iconst 0, 1) := by decide +kernel
theorem dX8_isForm_59 : decode cX8_isForm 59 = .ok (.istore_n 3, 1) := by decide +kernel
theorem dX8_isForm_60 : decode cX8_isForm 60 = .ok (.iload_n 3, 1) := by decide +kernel
theorem dX8_isForm_61 : decode cX8_isForm 61 = .ok (.bipush 6, 2) := by decide +kernel
theorem dX8_isForm_63 : decode cX8_isForm 63 = .ok (.if_icmp .ge 54, 3) := by decide +kernel
theorem dX8_isForm_66 : decode cX8_isForm 66 = .ok (.bipush 6, 2) := by decide +kernel
theorem dX8_isForm_68 : decode cX8_isForm 68 = .ok (.iload_n 1, 1) := by decide +kernel
theorem dX8_isForm_69 : decode cX8_isForm 69 = .ok (.imul, 1) := by decide +kernel
theorem dX8_isForm_70 : decode cX8_isForm 70 = .ok (.iload_n 3, 1) := by decide +kernel
theorem dX8_isForm_71 : decode cX8_isForm 71 = .ok (.iadd, 1) := by decide +kernel
theorem dX8_isForm_72 : decode cX8_isForm 72 = .ok (.istore 4, 2) := by decide +kernel
theorem dX8_isForm_74 : decode cX8_isForm 74 = .ok (.aload_n 0, 1) := by decide +kernel
theorem dX8_isForm_75 : decode cX8_isForm 75 = .ok (.getfield 163, 3) := by decide +kernel
theorem dX8_isForm_78 : decode cX8_isForm 78 = .ok (.iload 4, 2) := by decide +kernel
theorem dX8_isForm_80 : decode cX8_isForm 80 = .ok (.bipush 8, 2) := by decide +kernel
theorem dX8_isForm_82 : decode cX8_isForm 82 = .ok (.idiv, 1) := by decide +kernel
theorem dX8_isForm_83 : decode cX8_isForm 83 = .ok (.aload_n 0, 1) := by decide +kernel
theorem dX8_isForm_84 : decode cX8_isForm 84 = .ok (.getfield 163, 3) := by decide +kernel
theorem dX8_isForm_87 : decode cX8_isForm 87 = .ok (.iload 4, 2) := by decide +kernel
theorem dX8_isForm_89 : decode cX8_isForm 89 = .ok (.bipush 8, 2) := by decide +kernel
theorem dX8_isForm_91 : decode cX8_isForm 91 = .ok (.idiv, 1) := by decide +kernel
theorem dX8_isForm_92 : decode cX8_isForm 92 = .ok (.iaload, 1) := by decide +kernel
theorem dX8_isForm_93 : decode cX8_isForm 93 = .ok (.iload_n 2, 1) := by decide +kernel
theorem dX8_isForm_94 : decode cX8_isForm 94 = .ok (.iconst 5, 1) := by decide +kernel
theorem dX8_isForm_95 : decode cX8_isForm 95 = .ok (.iload_n 3, 1) := by decide +kernel
theorem dX8_isForm_96 : decode cX8_isForm 96 = .ok (.isub, 1) := by decide +kernel
theorem dX8_isForm_97 : decode cX8_isForm 97 = .ok (.ishr, 1) := by decide +kernel
theorem dX8_isForm_98 : decode cX8_isForm 98 = .ok (.iconst 1, 1) := by decide +kernel
theorem dX8_isForm_99 : decode cX8_isForm 99 = .ok (.iand, 1) := by decide +kernel
theorem dX8_isForm_100 : decode cX8_isForm 100 = .ok (.bipush 7, 2) := by decide +kernel
theorem dX8_isForm_102 : decode cX8_isForm 102 = .ok (.iload 4, 2) := by decide +kernel
theorem dX8_isForm_104 : decode cX8_isForm 104 = .ok (.bipush 8, 2) := by decide +kernel
theorem dX8_isForm_106 : decode cX8_isForm 106 = .ok (.irem, 1) := by decide +kernel
theorem dX8_isForm_107 : decode cX8_isForm 107 = .ok (.isub, 1) := by decide +kernel
theorem dX8_isForm_108 : decode cX8_isForm 108 = .ok (.ishl, 1) := by decide +kernel
theorem dX8_isForm_109 : decode cX8_isForm 109 = .ok (.ior, 1) := by decide +kernel
theorem dX8_isForm_110 : decode cX8_isForm 110 = .ok (.iastore, 1) := by decide +kernel
theorem dX8_isForm_111 : decode cX8_isForm 111 = .ok (.iinc 3 1, 3) := by decide +kernel
theorem dX8_isForm_114 : decode cX8_isForm 114 = .ok (.goto (-54), 3) := by decide +kernel
theorem dX8_isForm_117 : decode cX8_isForm 117 = .ok (.iinc 1 1, 3) := by decide +kernel
theorem dX8_isForm_120 : decode cX8_isForm 120 = .ok (.goto (-84), 3) := by decide +kernel
theorem dX8_isForm_123 : decode cX8_isForm 123 = .ok (.aload_n 0, 1) := by decide +kernel
theorem dX8_isForm_124 : decode cX8_isForm 124 = .ok (.getfield 163, 3) := by decide +kernel
theorem dX8_isForm_127 : decode cX8_isForm 127 = .ok (.bipush 22, 2) := by decide +kernel
theorem dX8_isForm_129 : decode cX8_isForm 129 = .ok (.iaload, 1) := by decide +kernel
theorem dX8_isForm_130 : decode cX8_isForm 130 = .ok (.ifCond .ne 7, 3) := by decide +kernel
theorem dX8_isForm_133 : decode cX8_isForm 133 = .ok (.iconst 1, 1) := by decide +kernel
theorem dX8_isForm_134 : decode cX8_isForm 134 = .ok (.goto 4, 3) := by decide +kernel
theorem dX8_isForm_137 : decode cX8_isForm 137 = .ok (.iconst 0, 1) := by decide +kernel
theorem dX8_isForm_138 : decode cX8_isForm 138 = .ok (.ireturn, 1) := by decide +kernel
theorem dX8_request_0 : decode cX8_request 0 = .ok (.aload_n 0, 1) := by decide +kernel
theorem dX8_request_1 : decode cX8_request 1 = .ok (.iconst 0, 1) := by decide +kernel
theorem dX8_request_2 : decode cX8_request 2 = .ok (.putfield 166, 3) := by decide +kernel
theorem dX8_request_5 : decode cX8_request 5 = .ok (.aload_n 0, 1) := by decide +kernel
theorem dX8_request_6 : decode cX8_request 6 = .ok (.iload_n 1, 1) := by decide +kernel
theorem dX8_request_7 : decode cX8_request 7 = .ok (.invokevirtual 264, 3) := by decide +kernel
theorem dX8_request_10 : decode cX8_request 10 = .ok (.istore_n 2, 1) := by decide +kernel
theorem dX8_request_11 : decode cX8_request 11 = .ok (.iload_n 2, 1) := by decide +kernel
theorem dX8_request_12 : decode cX8_request 12 = .ok (.ifCond .ge 15, 3) := by decide +kernel
theorem dX8_request_15 : decode cX8_request 15 = .ok (.aload_n 0, 1) := by decide +kernel
theorem dX8_request_16 : decode cX8_request 16 = .ok (.dup, 1) := by decide +kernel
theorem dX8_request_17 : decode cX8_request 17 = .ok (.getfield 268, 3) := by decide +kernel
theorem dX8_request_20 : decode cX8_request 20 = .ok (.iconst 1, 1) := by decide +kernel
theorem dX8_request_21 : decode cX8_request 21 = .ok (.iadd, 1) := by decide +kernel
theorem dX8_request_22 : decode cX8_request 22 = .ok (.putfield 268, 3) := by decide +kernel
theorem dX8_request_25 : decode cX8_request 25 = .ok (.iload_n 2, 1) := by decide +kernel
theorem dX8_request_26 : decode cX8_request 26 = .ok (.ireturn, 1) := by decide +kernel
theorem dX8_request_27 : decode cX8_request 27 = .ok (.aload_n 0, 1) := by decide +kernel
theorem dX8_request_28 : decode cX8_request 28 = .ok (.dup, 1) := by decide +kernel
theorem dX8_request_29 : decode cX8_request 29 = .ok (.getfield 271, 3) := by decide +kernel
theorem dX8_request_32 : decode cX8_request 32 = .ok (.iconst 1, 1) := by decide +kernel
theorem dX8_request_33 : decode cX8_request 33 = .ok (.iadd, 1) := by decide +kernel
theorem dX8_request_34 : decode cX8_request 34 = .ok (.putfield 271, 3) := by decide +kernel
theorem dX8_request_37 : decode cX8_request 37 = .ok (.aload_n 0, 1) := by decide +kernel
theorem dX8_request_38 : decode cX8_request 38 = .ok (.getfield 154, 3) := by decide +kernel
theorem dX8_request_41 : decode cX8_request 41 = .ok (.iload_n 2, 1) := by decide +kernel
theorem dX8_request_42 : decode cX8_request 42 = .ok (.aload_n 0, 1) := by decide +kernel
theorem dX8_request_43 : decode cX8_request 43 = .ok (.getfield 231, 3) := by decide +kernel
theorem dX8_request_46 : decode cX8_request 46 = .ok (.lastore, 1) := by decide +kernel
theorem dX8_request_47 : decode cX8_request 47 = .ok (.aload_n 0, 1) := by decide +kernel
theorem dX8_request_48 : decode cX8_request 48 = .ok (.getfield 258, 3) := by decide +kernel
theorem dX8_request_51 : decode cX8_request 51 = .ok (.aload_n 0, 1) := by decide +kernel
theorem dX8_request_52 : decode cX8_request 52 = .ok (.getfield 118, 3) := by decide +kernel
theorem dX8_request_55 : decode cX8_request 55 = .ok (.iconst 1, 1) := by decide +kernel
theorem dX8_request_56 : decode cX8_request 56 = .ok (.isub, 1) := by decide +kernel
theorem dX8_request_57 : decode cX8_request 57 = .ok (.if_icmp .ge 18, 3) := by decide +kernel
theorem dX8_request_60 : decode cX8_request 60 = .ok (.aload_n 0, 1) := by decide +kernel
theorem dX8_request_61 : decode cX8_request 61 = .ok (.iload_n 2, 1) := by decide +kernel
theorem dX8_request_62 : decode cX8_request 62 = .ok (.invokevirtual 248, 3) := by decide +kernel
theorem dX8_request_65 : decode cX8_request 65 = .ok (.aload_n 0, 1) := by decide +kernel
theorem dX8_request_66 : decode cX8_request 66 = .ok (.dup, 1) := by decide +kernel
theorem dX8_request_67 : decode cX8_request 67 = .ok (.getfield 274, 3) := by decide +kernel
theorem dX8_request_70 : decode cX8_request 70 = .ok (.iconst 1, 1) := by decide +kernel
theorem dX8_request_71 : decode cX8_request 71 = .ok (.iadd, 1) := by decide +kernel
theorem dX8_request_72 : decode cX8_request 72 = .ok (.putfield 274, 3) := by decide +kernel
theorem dX8_request_75 : decode cX8_request 75 = .ok (.iload_n 2, 1) := by decide +kernel
theorem dX8_request_76 : decode cX8_request 76 = .ok (.ireturn, 1) := by decide +kernel
theorem dX8_logout_0 : decode cX8_logout 0 = .ok (.aload_n 0, 1) := by decide +kernel
theorem dX8_logout_1 : decode cX8_logout 1 = .ok (.iconst 0, 1) := by decide +kernel
theorem dX8_logout_2 : decode cX8_logout 2 = .ok (.putfield 166, 3) := by decide +kernel
theorem dX8_logout_5 : decode cX8_logout 5 = .ok (.aload_n 0, 1) := by decide +kernel
theorem dX8_logout_6 : decode cX8_logout 6 = .ok (.iconst 1, 1) := by decide +kernel
theorem dX8_logout_7 : decode cX8_logout 7 = .ok (.invokevirtual 264, 3) := by decide +kernel
theorem dX8_logout_10 : decode cX8_logout 10 = .ok (.istore_n 1, 1) := by decide +kernel
theorem dX8_logout_11 : decode cX8_logout 11 = .ok (.iload_n 1, 1) := by decide +kernel
theorem dX8_logout_12 : decode cX8_logout 12 = .ok (.ifCond .ge 15, 3) := by decide +kernel
theorem dX8_logout_15 : decode cX8_logout 15 = .ok (.aload_n 0, 1) := by decide +kernel
theorem dX8_logout_16 : decode cX8_logout 16 = .ok (.dup, 1) := by decide +kernel
theorem dX8_logout_17 : decode cX8_logout 17 = .ok (.getfield 268, 3) := by decide +kernel
theorem dX8_logout_20 : decode cX8_logout 20 = .ok (.iconst 1, 1) := by decide +kernel
theorem dX8_logout_21 : decode cX8_logout 21 = .ok (.iadd, 1) := by decide +kernel
theorem dX8_logout_22 : decode cX8_logout 22 = .ok (.putfield 268, 3) := by decide +kernel
theorem dX8_logout_25 : decode cX8_logout 25 = .ok (.iload_n 1, 1) := by decide +kernel
theorem dX8_logout_26 : decode cX8_logout 26 = .ok (.ireturn, 1) := by decide +kernel
theorem dX8_logout_27 : decode cX8_logout 27 = .ok (.aload_n 0, 1) := by decide +kernel
theorem dX8_logout_28 : decode cX8_logout 28 = .ok (.dup, 1) := by decide +kernel
theorem dX8_logout_29 : decode cX8_logout 29 = .ok (.getfield 271, 3) := by decide +kernel
theorem dX8_logout_32 : decode cX8_logout 32 = .ok (.iconst 1, 1) := by decide +kernel
theorem dX8_logout_33 : decode cX8_logout 33 = .ok (.iadd, 1) := by decide +kernel
theorem dX8_logout_34 : decode cX8_logout 34 = .ok (.putfield 271, 3) := by decide +kernel
theorem dX8_logout_37 : decode cX8_logout 37 = .ok (.aload_n 0, 1) := by decide +kernel
theorem dX8_logout_38 : decode cX8_logout 38 = .ok (.getfield 142, 3) := by decide +kernel
theorem dX8_logout_41 : decode cX8_logout 41 = .ok (.iload_n 1, 1) := by decide +kernel
theorem dX8_logout_42 : decode cX8_logout 42 = .ok (.iconst 0, 1) := by decide +kernel
theorem dX8_logout_43 : decode cX8_logout 43 = .ok (.bastore, 1) := by decide +kernel
theorem dX8_logout_44 : decode cX8_logout 44 = .ok (.iload_n 1, 1) := by decide +kernel
theorem dX8_logout_45 : decode cX8_logout 45 = .ok (.ireturn, 1) := by decide +kernel
theorem dX8_revoke_0 : decode cX8_revoke 0 = .ok (.aload_n 0, 1) := by decide +kernel
theorem dX8_revoke_1 : decode cX8_revoke 1 = .ok (.iload_n 1, 1) := by decide +kernel
theorem dX8_revoke_2 : decode cX8_revoke 2 = .ok (.i2l, 1) := by decide +kernel
theorem dX8_revoke_3 : decode cX8_revoke 3 = .ok (.lconst 0, 1) := by decide +kernel
theorem dX8_revoke_4 : decode cX8_revoke 4 = .ok (.ldc2_w 236, 3) := by decide +kernel
theorem dX8_revoke_7 : decode cX8_revoke 7 = .ok (.invokestatic 223, 3) := by decide +kernel
theorem dX8_revoke_10 : decode cX8_revoke 10 = .ok (.ifCond .eq 7, 3) := by decide +kernel
theorem dX8_revoke_13 : decode cX8_revoke 13 = .ok (.iconst 0, 1) := by decide +kernel
theorem dX8_revoke_14 : decode cX8_revoke 14 = .ok (.goto 4, 3) := by decide +kernel
theorem dX8_revoke_17 : decode cX8_revoke 17 = .ok (.iconst 1, 1) := by decide +kernel
theorem dX8_revoke_18 : decode cX8_revoke 18 = .ok (.invokevirtual 227, 3) := by decide +kernel
theorem dX8_revoke_21 : decode cX8_revoke 21 = .ok (.ifCond .eq 5, 3) := by decide +kernel
theorem dX8_revoke_24 : decode cX8_revoke 24 = .ok (.iconst 0, 1) := by decide +kernel
theorem dX8_revoke_25 : decode cX8_revoke 25 = .ok (.ireturn, 1) := by decide +kernel
theorem dX8_revoke_26 : decode cX8_revoke 26 = .ok (.iconst 0, 1) := by decide +kernel
theorem dX8_revoke_27 : decode cX8_revoke 27 = .ok (.istore_n 2, 1) := by decide +kernel
theorem dX8_revoke_28 : decode cX8_revoke 28 = .ok (.iconst 0, 1) := by decide +kernel
theorem dX8_revoke_29 : decode cX8_revoke 29 = .ok (.istore_n 3, 1) := by decide +kernel
theorem dX8_revoke_30 : decode cX8_revoke 30 = .ok (.iload_n 3, 1) := by decide +kernel
theorem dX8_revoke_31 : decode cX8_revoke 31 = .ok (.bipush 8, 2) := by decide +kernel
theorem dX8_revoke_33 : decode cX8_revoke 33 = .ok (.if_icmp .ge 38, 3) := by decide +kernel
theorem dX8_revoke_36 : decode cX8_revoke 36 = .ok (.aload_n 0, 1) := by decide +kernel
theorem dX8_revoke_37 : decode cX8_revoke 37 = .ok (.getfield 142, 3) := by decide +kernel
theorem dX8_revoke_40 : decode cX8_revoke 40 = .ok (.iload_n 3, 1) := by decide +kernel
theorem dX8_revoke_41 : decode cX8_revoke 41 = .ok (.baload, 1) := by decide +kernel
theorem dX8_revoke_42 : decode cX8_revoke 42 = .ok (.ifCond .eq 23, 3) := by decide +kernel
theorem dX8_revoke_45 : decode cX8_revoke 45 = .ok (.aload_n 0, 1) := by decide +kernel
theorem dX8_revoke_46 : decode cX8_revoke 46 = .ok (.getfield 145, 3) := by decide +kernel
theorem dX8_revoke_49 : decode cX8_revoke 49 = .ok (.iload_n 3, 1) := by decide +kernel
theorem dX8_revoke_50 : decode cX8_revoke 50 = .ok (.iaload, 1) := by decide +kernel
theorem dX8_revoke_51 : decode cX8_revoke 51 = .ok (.iload_n 1, 1) := by decide +kernel
theorem dX8_revoke_52 : decode cX8_revoke 52 = .ok (.if_icmp .ne 13, 3) := by decide +kernel
theorem dX8_revoke_55 : decode cX8_revoke 55 = .ok (.aload_n 0, 1) := by decide +kernel
theorem dX8_revoke_56 : decode cX8_revoke 56 = .ok (.getfield 142, 3) := by decide +kernel
theorem dX8_revoke_59 : decode cX8_revoke 59 = .ok (.iload_n 3, 1) := by decide +kernel
theorem dX8_revoke_60 : decode cX8_revoke 60 = .ok (.iconst 0, 1) := by decide +kernel
theorem dX8_revoke_61 : decode cX8_revoke 61 = .ok (.bastore, 1) := by decide +kernel
theorem dX8_revoke_62 : decode cX8_revoke 62 = .ok (.iinc 2 1, 3) := by decide +kernel
theorem dX8_revoke_65 : decode cX8_revoke 65 = .ok (.iinc 3 1, 3) := by decide +kernel
theorem dX8_revoke_68 : decode cX8_revoke 68 = .ok (.goto (-38), 3) := by decide +kernel
theorem dX8_revoke_71 : decode cX8_revoke 71 = .ok (.iload_n 2, 1) := by decide +kernel
theorem dX8_revoke_72 : decode cX8_revoke 72 = .ok (.ireturn, 1) := by decide +kernel
theorem dX8_typed_0 : decode cX8_typed 0 = .ok (.iload_n 3, 1) := by decide +kernel
theorem dX8_typed_1 : decode cX8_typed 1 = .ok (.istore 4, 2) := by decide +kernel
theorem dX8_typed_3 : decode cX8_typed 3 = .ok (.bipush 24, 2) := by decide +kernel
theorem dX8_typed_5 : decode cX8_typed 5 = .ok (.istore 5, 2) := by decide +kernel
theorem dX8_typed_7 : decode cX8_typed 7 = .ok (.iload 5, 2) := by decide +kernel
theorem dX8_typed_9 : decode cX8_typed 9 = .ok (.ifCond .lt 48, 3) := by decide +kernel
theorem dX8_typed_12 : decode cX8_typed 12 = .ok (.iload_n 2, 1) := by decide +kernel
theorem dX8_typed_13 : decode cX8_typed 13 = .ok (.iload 5, 2) := by decide +kernel
theorem dX8_typed_15 : decode cX8_typed 15 = .ok (.ishr, 1) := by decide +kernel
theorem dX8_typed_16 : decode cX8_typed 16 = .ok (.sipush 255, 3) := by decide +kernel
theorem dX8_typed_19 : decode cX8_typed 19 = .ok (.iand, 1) := by decide +kernel
theorem dX8_typed_20 : decode cX8_typed 20 = .ok (.istore 6, 2) := by decide +kernel
theorem dX8_typed_22 : decode cX8_typed 22 = .ok (.iload 6, 2) := by decide +kernel
theorem dX8_typed_24 : decode cX8_typed 24 = .ok (.ifCond .eq 27, 3) := by decide +kernel
theorem dX8_typed_27 : decode cX8_typed 27 = .ok (.iload 4, 2) := by decide +kernel
theorem dX8_typed_29 : decode cX8_typed 29 = .ok (.bipush 40, 2) := by decide +kernel
theorem dX8_typed_31 : decode cX8_typed 31 = .ok (.if_icmp .ge 17, 3) := by decide +kernel
theorem dX8_typed_34 : decode cX8_typed 34 = .ok (.aload_n 0, 1) := by decide +kernel
theorem dX8_typed_35 : decode cX8_typed 35 = .ok (.getfield 160, 3) := by decide +kernel
theorem dX8_typed_38 : decode cX8_typed 38 = .ok (.bipush 40, 2) := by decide +kernel
theorem dX8_typed_40 : decode cX8_typed 40 = .ok (.iload_n 1, 1) := by decide +kernel
theorem dX8_typed_41 : decode cX8_typed 41 = .ok (.imul, 1) := by decide +kernel
theorem dX8_typed_42 : decode cX8_typed 42 = .ok (.iload 4, 2) := by decide +kernel
theorem dX8_typed_44 : decode cX8_typed 44 = .ok (.iadd, 1) := by decide +kernel
theorem dX8_typed_45 : decode cX8_typed 45 = .ok (.iload 6, 2) := by decide +kernel
theorem dX8_typed_47 : decode cX8_typed 47 = .ok (.iastore, 1) := by decide +kernel
theorem dX8_typed_48 : decode cX8_typed 48 = .ok (.iinc 4 1, 3) := by decide +kernel
theorem dX8_typed_51 : decode cX8_typed 51 = .ok (.iinc 5 (-8), 3) := by decide +kernel
theorem dX8_typed_54 : decode cX8_typed 54 = .ok (.goto (-47), 3) := by decide +kernel
theorem dX8_typed_57 : decode cX8_typed 57 = .ok (.iload 4, 2) := by decide +kernel
theorem dX8_typed_59 : decode cX8_typed 59 = .ok (.ireturn, 1) := by decide +kernel
theorem dX8_many_0 : decode cX8_many 0 = .ok (.iload_n 0, 1) := by decide +kernel
theorem dX8_many_1 : decode cX8_many 1 = .ok (.bipush 24, 2) := by decide +kernel
theorem dX8_many_3 : decode cX8_many 3 = .ok (.ishr, 1) := by decide +kernel
theorem dX8_many_4 : decode cX8_many 4 = .ok (.sipush 255, 3) := by decide +kernel
theorem dX8_many_7 : decode cX8_many 7 = .ok (.iand, 1) := by decide +kernel
theorem dX8_many_8 : decode cX8_many 8 = .ok (.ifCond .le 7, 3) := by decide +kernel
theorem dX8_many_11 : decode cX8_many 11 = .ok (.iconst 1, 1) := by decide +kernel
theorem dX8_many_12 : decode cX8_many 12 = .ok (.goto 4, 3) := by decide +kernel
theorem dX8_many_15 : decode cX8_many 15 = .ok (.iconst 0, 1) := by decide +kernel
theorem dX8_many_16 : decode cX8_many 16 = .ok (.iload_n 0, 1) := by decide +kernel
theorem dX8_many_17 : decode cX8_many 17 = .ok (.bipush 16, 2) := by decide +kernel
theorem dX8_many_19 : decode cX8_many 19 = .ok (.ishr, 1) := by decide +kernel
theorem dX8_many_20 : decode cX8_many 20 = .ok (.sipush 255, 3) := by decide +kernel
theorem dX8_many_23 : decode cX8_many 23 = .ok (.iand, 1) := by decide +kernel
theorem dX8_many_24 : decode cX8_many 24 = .ok (.ifCond .le 7, 3) := by decide +kernel
theorem dX8_many_27 : decode cX8_many 27 = .ok (.iconst 1, 1) := by decide +kernel
theorem dX8_many_28 : decode cX8_many 28 = .ok (.goto 4, 3) := by decide +kernel
theorem dX8_many_31 : decode cX8_many 31 = .ok (.iconst 0, 1) := by decide +kernel
theorem dX8_many_32 : decode cX8_many 32 = .ok (.iadd, 1) := by decide +kernel
theorem dX8_many_33 : decode cX8_many 33 = .ok (.iload_n 0, 1) := by decide +kernel
theorem dX8_many_34 : decode cX8_many 34 = .ok (.bipush 8, 2) := by decide +kernel
theorem dX8_many_36 : decode cX8_many 36 = .ok (.ishr, 1) := by decide +kernel
theorem dX8_many_37 : decode cX8_many 37 = .ok (.sipush 255, 3) := by decide +kernel
theorem dX8_many_40 : decode cX8_many 40 = .ok (.iand, 1) := by decide +kernel
theorem dX8_many_41 : decode cX8_many 41 = .ok (.ifCond .le 7, 3) := by decide +kernel
theorem dX8_many_44 : decode cX8_many 44 = .ok (.iconst 1, 1) := by decide +kernel
theorem dX8_many_45 : decode cX8_many 45 = .ok (.goto 4, 3) := by decide +kernel
theorem dX8_many_48 : decode cX8_many 48 = .ok (.iconst 0, 1) := by decide +kernel
theorem dX8_many_49 : decode cX8_many 49 = .ok (.iadd, 1) := by decide +kernel
theorem dX8_many_50 : decode cX8_many 50 = .ok (.iload_n 0, 1) := by decide +kernel
theorem dX8_many_51 : decode cX8_many 51 = .ok (.sipush 255, 3) := by decide +kernel
theorem dX8_many_54 : decode cX8_many 54 = .ok (.iand, 1) := by decide +kernel
theorem dX8_many_55 : decode cX8_many 55 = .ok (.ifCond .le 7, 3) := by decide +kernel
theorem dX8_many_58 : decode cX8_many 58 = .ok (.iconst 1, 1) := by decide +kernel
theorem dX8_many_59 : decode cX8_many 59 = .ok (.goto 4, 3) := by decide +kernel
theorem dX8_many_62 : decode cX8_many 62 = .ok (.iconst 0, 1) := by decide +kernel
theorem dX8_many_63 : decode cX8_many 63 = .ok (.iadd, 1) := by decide +kernel
theorem dX8_many_64 : decode cX8_many 64 = .ok (.ireturn, 1) := by decide +kernel
theorem dX8_type_0 : decode cX8_type 0 = .ok (.iload_n 1, 1) := by decide +kernel
theorem dX8_type_1 : decode cX8_type 1 = .ok (.ifCond .eq 8, 3) := by decide +kernel
theorem dX8_type_4 : decode cX8_type 4 = .ok (.iload_n 1, 1) := by decide +kernel
theorem dX8_type_5 : decode cX8_type 5 = .ok (.iconst 1, 1) := by decide +kernel
theorem dX8_type_6 : decode cX8_type 6 = .ok (.if_icmp .ne 7, 3) := by decide +kernel
theorem dX8_type_9 : decode cX8_type 9 = .ok (.iconst 1, 1) := by decide +kernel
theorem dX8_type_10 : decode cX8_type 10 = .ok (.goto 4, 3) := by decide +kernel
theorem dX8_type_13 : decode cX8_type 13 = .ok (.iconst 0, 1) := by decide +kernel
theorem dX8_type_14 : decode cX8_type 14 = .ok (.istore 6, 2) := by decide +kernel
theorem dX8_type_16 : decode cX8_type 16 = .ok (.aload_n 0, 1) := by decide +kernel
theorem dX8_type_17 : decode cX8_type 17 = .ok (.iload 6, 2) := by decide +kernel
theorem dX8_type_19 : decode cX8_type 19 = .ok (.ifCond .ne 7, 3) := by decide +kernel
theorem dX8_type_22 : decode cX8_type 22 = .ok (.iconst 1, 1) := by decide +kernel
theorem dX8_type_23 : decode cX8_type 23 = .ok (.goto 41, 3) := by decide +kernel
theorem dX8_type_26 : decode cX8_type 26 = .ok (.aload_n 0, 1) := by decide +kernel
theorem dX8_type_27 : decode cX8_type 27 = .ok (.getfield 157, 3) := by decide +kernel
theorem dX8_type_30 : decode cX8_type 30 = .ok (.iload_n 1, 1) := by decide +kernel
theorem dX8_type_31 : decode cX8_type 31 = .ok (.iaload, 1) := by decide +kernel
theorem dX8_type_32 : decode cX8_type 32 = .ok (.iload_n 2, 1) := by decide +kernel
theorem dX8_type_33 : decode cX8_type 33 = .ok (.invokestatic 277, 3) := by decide +kernel
theorem dX8_type_36 : decode cX8_type 36 = .ok (.iadd, 1) := by decide +kernel
theorem dX8_type_37 : decode cX8_type 37 = .ok (.iload_n 3, 1) := by decide +kernel
theorem dX8_type_38 : decode cX8_type 38 = .ok (.invokestatic 277, 3) := by decide +kernel
theorem dX8_type_41 : decode cX8_type 41 = .ok (.iadd, 1) := by decide +kernel
theorem dX8_type_42 : decode cX8_type 42 = .ok (.iload 4, 2) := by decide +kernel
theorem dX8_type_44 : decode cX8_type 44 = .ok (.invokestatic 277, 3) := by decide +kernel
theorem dX8_type_47 : decode cX8_type 47 = .ok (.iadd, 1) := by decide +kernel
theorem dX8_type_48 : decode cX8_type 48 = .ok (.iload 5, 2) := by decide +kernel
theorem dX8_type_50 : decode cX8_type 50 = .ok (.invokestatic 277, 3) := by decide +kernel
theorem dX8_type_53 : decode cX8_type 53 = .ok (.iadd, 1) := by decide +kernel
theorem dX8_type_54 : decode cX8_type 54 = .ok (.bipush 40, 2) := by decide +kernel
theorem dX8_type_56 : decode cX8_type 56 = .ok (.if_icmp .le 7, 3) := by decide +kernel
theorem dX8_type_59 : decode cX8_type 59 = .ok (.iconst 2, 1) := by decide +kernel
theorem dX8_type_60 : decode cX8_type 60 = .ok (.goto 4, 3) := by decide +kernel
theorem dX8_type_63 : decode cX8_type 63 = .ok (.iconst 0, 1) := by decide +kernel
theorem dX8_type_64 : decode cX8_type 64 = .ok (.invokevirtual 227, 3) := by decide +kernel
theorem dX8_type_67 : decode cX8_type 67 = .ok (.ifCond .eq 5, 3) := by decide +kernel
theorem dX8_type_70 : decode cX8_type 70 = .ok (.iconst 0, 1) := by decide +kernel
theorem dX8_type_71 : decode cX8_type 71 = .ok (.ireturn, 1) := by decide +kernel
theorem dX8_type_72 : decode cX8_type 72 = .ok (.aload_n 0, 1) := by decide +kernel
theorem dX8_type_73 : decode cX8_type 73 = .ok (.iload_n 1, 1) := by decide +kernel
theorem dX8_type_74 : decode cX8_type 74 = .ok (.iload_n 2, 1) := by decide +kernel
theorem dX8_type_75 : decode cX8_type 75 = .ok (.aload_n 0, 1) := by decide +kernel
theorem dX8_type_76 : decode cX8_type 76 = .ok (.getfield 157, 3) := by decide +kernel
theorem dX8_type_79 : decode cX8_type 79 = .ok (.iload_n 1, 1) := by decide +kernel
theorem dX8_type_80 : decode cX8_type 80 = .ok (.iaload, 1) := by decide +kernel
theorem dX8_type_81 : decode cX8_type 81 = .ok (.invokevirtual 280, 3) := by decide +kernel
theorem dX8_type_84 : decode cX8_type 84 = .ok (.istore 7, 2) := by decide +kernel
theorem dX8_type_86 : decode cX8_type 86 = .ok (.aload_n 0, 1) := by decide +kernel
theorem dX8_type_87 : decode cX8_type 87 = .ok (.iload_n 1, 1) := by decide +kernel
theorem dX8_type_88 : decode cX8_type 88 = .ok (.iload_n 3, 1) := by decide +kernel
theorem dX8_type_89 : decode cX8_type 89 = .ok (.iload 7, 2) := by decide +kernel
theorem dX8_type_91 : decode cX8_type 91 = .ok (.invokevirtual 280, 3) := by decide +kernel
theorem dX8_type_94 : decode cX8_type 94 = .ok (.istore 7, 2) := by decide +kernel
theorem dX8_type_96 : decode cX8_type 96 = .ok (.aload_n 0, 1) := by decide +kernel
theorem dX8_type_97 : decode cX8_type 97 = .ok (.iload_n 1, 1) := by decide +kernel
theorem dX8_type_98 : decode cX8_type 98 = .ok (.iload 4, 2) := by decide +kernel
theorem dX8_type_100 : decode cX8_type 100 = .ok (.iload 7, 2) := by decide +kernel
theorem dX8_type_102 : decode cX8_type 102 = .ok (.invokevirtual 280, 3) := by decide +kernel
theorem dX8_type_105 : decode cX8_type 105 = .ok (.istore 7, 2) := by decide +kernel
theorem dX8_type_107 : decode cX8_type 107 = .ok (.aload_n 0, 1) := by decide +kernel
theorem dX8_type_108 : decode cX8_type 108 = .ok (.iload_n 1, 1) := by decide +kernel
theorem dX8_type_109 : decode cX8_type 109 = .ok (.iload 5, 2) := by decide +kernel
theorem dX8_type_111 : decode cX8_type 111 = .ok (.iload 7, 2) := by decide +kernel
theorem dX8_type_113 : decode cX8_type 113 = .ok (.invokevirtual 280, 3) := by decide +kernel
theorem dX8_type_116 : decode cX8_type 116 = .ok (.istore 7, 2) := by decide +kernel
theorem dX8_type_118 : decode cX8_type 118 = .ok (.aload_n 0, 1) := by decide +kernel
theorem dX8_type_119 : decode cX8_type 119 = .ok (.getfield 157, 3) := by decide +kernel
theorem dX8_type_122 : decode cX8_type 122 = .ok (.iload_n 1, 1) := by decide +kernel
theorem dX8_type_123 : decode cX8_type 123 = .ok (.iload 7, 2) := by decide +kernel
theorem dX8_type_125 : decode cX8_type 125 = .ok (.iastore, 1) := by decide +kernel
theorem dX8_type_126 : decode cX8_type 126 = .ok (.iload 7, 2) := by decide +kernel
theorem dX8_type_128 : decode cX8_type 128 = .ok (.ireturn, 1) := by decide +kernel
theorem dX8_erase_0 : decode cX8_erase 0 = .ok (.aload_n 0, 1) := by decide +kernel
theorem dX8_erase_1 : decode cX8_erase 1 = .ok (.iload_n 1, 1) := by decide +kernel
theorem dX8_erase_2 : decode cX8_erase 2 = .ok (.ifCond .eq 8, 3) := by decide +kernel
theorem dX8_erase_5 : decode cX8_erase 5 = .ok (.iload_n 1, 1) := by decide +kernel
theorem dX8_erase_6 : decode cX8_erase 6 = .ok (.iconst 1, 1) := by decide +kernel
theorem dX8_erase_7 : decode cX8_erase 7 = .ok (.if_icmp .ne 7, 3) := by decide +kernel
theorem dX8_erase_10 : decode cX8_erase 10 = .ok (.iconst 0, 1) := by decide +kernel
theorem dX8_erase_11 : decode cX8_erase 11 = .ok (.goto 4, 3) := by decide +kernel
theorem dX8_erase_14 : decode cX8_erase 14 = .ok (.iconst 1, 1) := by decide +kernel
theorem dX8_erase_15 : decode cX8_erase 15 = .ok (.invokevirtual 227, 3) := by decide +kernel
theorem dX8_erase_18 : decode cX8_erase 18 = .ok (.ifCond .eq 5, 3) := by decide +kernel
theorem dX8_erase_21 : decode cX8_erase 21 = .ok (.iconst 0, 1) := by decide +kernel
theorem dX8_erase_22 : decode cX8_erase 22 = .ok (.ireturn, 1) := by decide +kernel
theorem dX8_erase_23 : decode cX8_erase 23 = .ok (.aload_n 0, 1) := by decide +kernel
theorem dX8_erase_24 : decode cX8_erase 24 = .ok (.getfield 157, 3) := by decide +kernel
theorem dX8_erase_27 : decode cX8_erase 27 = .ok (.iload_n 1, 1) := by decide +kernel
theorem dX8_erase_28 : decode cX8_erase 28 = .ok (.iaload, 1) := by decide +kernel
theorem dX8_erase_29 : decode cX8_erase 29 = .ok (.istore_n 2, 1) := by decide +kernel
theorem dX8_erase_30 : decode cX8_erase 30 = .ok (.aload_n 0, 1) := by decide +kernel
theorem dX8_erase_31 : decode cX8_erase 31 = .ok (.getfield 157, 3) := by decide +kernel
theorem dX8_erase_34 : decode cX8_erase 34 = .ok (.iload_n 1, 1) := by decide +kernel
theorem dX8_erase_35 : decode cX8_erase 35 = .ok (.iconst 0, 1) := by decide +kernel
theorem dX8_erase_36 : decode cX8_erase 36 = .ok (.iastore, 1) := by decide +kernel
theorem dX8_erase_37 : decode cX8_erase 37 = .ok (.iload_n 2, 1) := by decide +kernel
theorem dX8_erase_38 : decode cX8_erase 38 = .ok (.ireturn, 1) := by decide +kernel
theorem dX8_put_0 : decode cX8_put 0 = .ok (.iload_n 1, 1) := by decide +kernel
theorem dX8_put_1 : decode cX8_put 1 = .ok (.ifCond .eq 8, 3) := by decide +kernel
theorem dX8_put_4 : decode cX8_put 4 = .ok (.iload_n 1, 1) := by decide +kernel
theorem dX8_put_5 : decode cX8_put 5 = .ok (.iconst 1, 1) := by decide +kernel
theorem dX8_put_6 : decode cX8_put 6 = .ok (.if_icmp .ne 19, 3) := by decide +kernel
theorem dX8_put_9 : decode cX8_put 9 = .ok (.iload_n 3, 1) := by decide +kernel
theorem dX8_put_10 : decode cX8_put 10 = .ok (.i2l, 1) := by decide +kernel
theorem dX8_put_11 : decode cX8_put 11 = .ok (.lconst 1, 1) := by decide +kernel
theorem dX8_put_12 : decode cX8_put 12 = .ok (.ldc2_w 189, 3) := by decide +kernel
theorem dX8_put_15 : decode cX8_put 15 = .ok (.invokestatic 223, 3) := by decide +kernel
theorem dX8_put_18 : decode cX8_put 18 = .ok (.ifCond .eq 7, 3) := by decide +kernel
theorem dX8_put_21 : decode cX8_put 21 = .ok (.iconst 1, 1) := by decide +kernel
theorem dX8_put_22 : decode cX8_put 22 = .ok (.goto 4, 3) := by decide +kernel
theorem dX8_put_25 : decode cX8_put 25 = .ok (.iconst 0, 1) := by decide +kernel
theorem dX8_put_26 : decode cX8_put 26 = .ok (.istore 4, 2) := by decide +kernel
theorem dX8_put_28 : decode cX8_put 28 = .ok (.aload_n 0, 1) := by decide +kernel
theorem dX8_put_29 : decode cX8_put 29 = .ok (.iload 4, 2) := by decide +kernel
theorem dX8_put_31 : decode cX8_put 31 = .ok (.ifCond .ne 7, 3) := by decide +kernel
theorem dX8_put_34 : decode cX8_put 34 = .ok (.iconst 1, 1) := by decide +kernel
theorem dX8_put_35 : decode cX8_put 35 = .ok (.goto 26, 3) := by decide +kernel
theorem dX8_put_38 : decode cX8_put 38 = .ok (.iload_n 2, 1) := by decide +kernel
theorem dX8_put_39 : decode cX8_put 39 = .ok (.i2l, 1) := by decide +kernel
theorem dX8_put_40 : decode cX8_put 40 = .ok (.lconst 0, 1) := by decide +kernel
theorem dX8_put_41 : decode cX8_put 41 = .ok (.aload_n 0, 1) := by decide +kernel
theorem dX8_put_42 : decode cX8_put 42 = .ok (.getfield 157, 3) := by decide +kernel
theorem dX8_put_45 : decode cX8_put 45 = .ok (.iload_n 1, 1) := by decide +kernel
theorem dX8_put_46 : decode cX8_put 46 = .ok (.iaload, 1) := by decide +kernel
theorem dX8_put_47 : decode cX8_put 47 = .ok (.iconst 1, 1) := by decide +kernel
theorem dX8_put_48 : decode cX8_put 48 = .ok (.isub, 1) := by decide +kernel
theorem dX8_put_49 : decode cX8_put 49 = .ok (.i2l, 1) := by decide +kernel
theorem dX8_put_50 : decode cX8_put 50 = .ok (.invokestatic 223, 3) := by decide +kernel
theorem dX8_put_53 : decode cX8_put 53 = .ok (.ifCond .ne 7, 3) := by decide +kernel
theorem dX8_put_56 : decode cX8_put 56 = .ok (.iconst 2, 1) := by decide +kernel
theorem dX8_put_57 : decode cX8_put 57 = .ok (.goto 4, 3) := by decide +kernel
theorem dX8_put_60 : decode cX8_put 60 = .ok (.iconst 0, 1) := by decide +kernel
theorem dX8_put_61 : decode cX8_put 61 = .ok (.invokevirtual 227, 3) := by decide +kernel
theorem dX8_put_64 : decode cX8_put 64 = .ok (.ifCond .eq 5, 3) := by decide +kernel
theorem dX8_put_67 : decode cX8_put 67 = .ok (.iconst 0, 1) := by decide +kernel
theorem dX8_put_68 : decode cX8_put 68 = .ok (.ireturn, 1) := by decide +kernel
theorem dX8_put_69 : decode cX8_put 69 = .ok (.aload_n 0, 1) := by decide +kernel
theorem dX8_put_70 : decode cX8_put 70 = .ok (.getfield 160, 3) := by decide +kernel
theorem dX8_put_73 : decode cX8_put 73 = .ok (.bipush 40, 2) := by decide +kernel
theorem dX8_put_75 : decode cX8_put 75 = .ok (.iload_n 1, 1) := by decide +kernel
theorem dX8_put_76 : decode cX8_put 76 = .ok (.imul, 1) := by decide +kernel
theorem dX8_put_77 : decode cX8_put 77 = .ok (.iload_n 2, 1) := by decide +kernel
theorem dX8_put_78 : decode cX8_put 78 = .ok (.iadd, 1) := by decide +kernel
theorem dX8_put_79 : decode cX8_put 79 = .ok (.iaload, 1) := by decide +kernel
theorem dX8_put_80 : decode cX8_put 80 = .ok (.istore 5, 2) := by decide +kernel
theorem dX8_put_82 : decode cX8_put 82 = .ok (.aload_n 0, 1) := by decide +kernel
theorem dX8_put_83 : decode cX8_put 83 = .ok (.getfield 160, 3) := by decide +kernel
theorem dX8_put_86 : decode cX8_put 86 = .ok (.bipush 40, 2) := by decide +kernel
theorem dX8_put_88 : decode cX8_put 88 = .ok (.iload_n 1, 1) := by decide +kernel
theorem dX8_put_89 : decode cX8_put 89 = .ok (.imul, 1) := by decide +kernel
theorem dX8_put_90 : decode cX8_put 90 = .ok (.iload_n 2, 1) := by decide +kernel
theorem dX8_put_91 : decode cX8_put 91 = .ok (.iadd, 1) := by decide +kernel
theorem dX8_put_92 : decode cX8_put 92 = .ok (.iload_n 3, 1) := by decide +kernel
theorem dX8_put_93 : decode cX8_put 93 = .ok (.iastore, 1) := by decide +kernel
theorem dX8_put_94 : decode cX8_put 94 = .ok (.iload 5, 2) := by decide +kernel
theorem dX8_put_96 : decode cX8_put 96 = .ok (.ireturn, 1) := by decide +kernel
theorem dX8_sign_0 : decode cX8_sign 0 = .ok (.aload_n 0, 1) := by decide +kernel
theorem dX8_sign_1 : decode cX8_sign 1 = .ok (.iload_n 1, 1) := by decide +kernel
theorem dX8_sign_2 : decode cX8_sign 2 = .ok (.ifCond .eq 8, 3) := by decide +kernel
theorem dX8_sign_5 : decode cX8_sign 5 = .ok (.iload_n 1, 1) := by decide +kernel
theorem dX8_sign_6 : decode cX8_sign 6 = .ok (.iconst 1, 1) := by decide +kernel
theorem dX8_sign_7 : decode cX8_sign 7 = .ok (.if_icmp .ne 7, 3) := by decide +kernel
theorem dX8_sign_10 : decode cX8_sign 10 = .ok (.iconst 0, 1) := by decide +kernel
theorem dX8_sign_11 : decode cX8_sign 11 = .ok (.goto 4, 3) := by decide +kernel
theorem dX8_sign_14 : decode cX8_sign 14 = .ok (.iconst 1, 1) := by decide +kernel
theorem dX8_sign_15 : decode cX8_sign 15 = .ok (.invokevirtual 227, 3) := by decide +kernel
theorem dX8_sign_18 : decode cX8_sign 18 = .ok (.ifCond .eq 5, 3) := by decide +kernel
theorem dX8_sign_21 : decode cX8_sign 21 = .ok (.iconst 0, 1) := by decide +kernel
theorem dX8_sign_22 : decode cX8_sign 22 = .ok (.ireturn, 1) := by decide +kernel
theorem dX8_sign_23 : decode cX8_sign 23 = .ok (.iload_n 2, 1) := by decide +kernel
theorem dX8_sign_24 : decode cX8_sign 24 = .ok (.i2l, 1) := by decide +kernel
theorem dX8_sign_25 : decode cX8_sign 25 = .ok (.lconst 0, 1) := by decide +kernel
theorem dX8_sign_26 : decode cX8_sign 26 = .ok (.aload_n 0, 1) := by decide +kernel
theorem dX8_sign_27 : decode cX8_sign 27 = .ok (.getfield 157, 3) := by decide +kernel
theorem dX8_sign_30 : decode cX8_sign 30 = .ok (.iload_n 1, 1) := by decide +kernel
theorem dX8_sign_31 : decode cX8_sign 31 = .ok (.iaload, 1) := by decide +kernel
theorem dX8_sign_32 : decode cX8_sign 32 = .ok (.iconst 1, 1) := by decide +kernel
theorem dX8_sign_33 : decode cX8_sign 33 = .ok (.isub, 1) := by decide +kernel
theorem dX8_sign_34 : decode cX8_sign 34 = .ok (.i2l, 1) := by decide +kernel
theorem dX8_sign_35 : decode cX8_sign 35 = .ok (.invokestatic 223, 3) := by decide +kernel
theorem dX8_sign_38 : decode cX8_sign 38 = .ok (.ifCond .eq 17, 3) := by decide +kernel
theorem dX8_sign_41 : decode cX8_sign 41 = .ok (.aload_n 0, 1) := by decide +kernel
theorem dX8_sign_42 : decode cX8_sign 42 = .ok (.getfield 160, 3) := by decide +kernel
theorem dX8_sign_45 : decode cX8_sign 45 = .ok (.bipush 40, 2) := by decide +kernel
theorem dX8_sign_47 : decode cX8_sign 47 = .ok (.iload_n 1, 1) := by decide +kernel
theorem dX8_sign_48 : decode cX8_sign 48 = .ok (.imul, 1) := by decide +kernel
theorem dX8_sign_49 : decode cX8_sign 49 = .ok (.iload_n 2, 1) := by decide +kernel
theorem dX8_sign_50 : decode cX8_sign 50 = .ok (.iadd, 1) := by decide +kernel
theorem dX8_sign_51 : decode cX8_sign 51 = .ok (.iaload, 1) := by decide +kernel
theorem dX8_sign_52 : decode cX8_sign 52 = .ok (.goto 4, 3) := by decide +kernel
theorem dX8_sign_55 : decode cX8_sign 55 = .ok (.iconst (-1), 1) := by decide +kernel
theorem dX8_sign_56 : decode cX8_sign 56 = .ok (.ireturn, 1) := by decide +kernel
theorem dX8_session_0 : decode cX8_session 0 = .ok (.aload_n 0, 1) := by decide +kernel
theorem dX8_session_1 : decode cX8_session 1 = .ok (.iload_n 1, 1) := by decide +kernel
theorem dX8_session_2 : decode cX8_session 2 = .ok (.i2l, 1) := by decide +kernel
theorem dX8_session_3 : decode cX8_session 3 = .ok (.lconst 0, 1) := by decide +kernel
theorem dX8_session_4 : decode cX8_session 4 = .ok (.ldc2_w 236, 3) := by decide +kernel
theorem dX8_session_7 : decode cX8_session 7 = .ok (.invokestatic 223, 3) := by decide +kernel
theorem dX8_session_10 : decode cX8_session 10 = .ok (.ifCond .eq 19, 3) := by decide +kernel
theorem dX8_session_13 : decode cX8_session 13 = .ok (.iload_n 2, 1) := by decide +kernel
theorem dX8_session_14 : decode cX8_session 14 = .ok (.i2l, 1) := by decide +kernel
theorem dX8_session_15 : decode cX8_session 15 = .ok (.lconst 0, 1) := by decide +kernel
theorem dX8_session_16 : decode cX8_session 16 = .ok (.ldc2_w 284, 3) := by decide +kernel
theorem dX8_session_19 : decode cX8_session 19 = .ok (.invokestatic 223, 3) := by decide +kernel
theorem dX8_session_22 : decode cX8_session 22 = .ok (.ifCond .eq 7, 3) := by decide +kernel
theorem dX8_session_25 : decode cX8_session 25 = .ok (.iconst 0, 1) := by decide +kernel
theorem dX8_session_26 : decode cX8_session 26 = .ok (.goto 4, 3) := by decide +kernel
theorem dX8_session_29 : decode cX8_session 29 = .ok (.iconst 1, 1) := by decide +kernel
theorem dX8_session_30 : decode cX8_session 30 = .ok (.invokevirtual 227, 3) := by decide +kernel
theorem dX8_session_33 : decode cX8_session 33 = .ok (.ifCond .eq 5, 3) := by decide +kernel
theorem dX8_session_36 : decode cX8_session 36 = .ok (.lconst 0, 1) := by decide +kernel
theorem dX8_session_37 : decode cX8_session 37 = .ok (.lreturn, 1) := by decide +kernel
theorem dX8_session_38 : decode cX8_session 38 = .ok (.aload_n 0, 1) := by decide +kernel
theorem dX8_session_39 : decode cX8_session 39 = .ok (.getfield 142, 3) := by decide +kernel
theorem dX8_session_42 : decode cX8_session 42 = .ok (.iload_n 1, 1) := by decide +kernel
theorem dX8_session_43 : decode cX8_session 43 = .ok (.baload, 1) := by decide +kernel
theorem dX8_session_44 : decode cX8_session 44 = .ok (.ifCond .ne 9, 3) := by decide +kernel
theorem dX8_session_47 : decode cX8_session 47 = .ok (.ldc2_w 286, 3) := by decide +kernel
theorem dX8_session_50 : decode cX8_session 50 = .ok (.goto 51, 3) := by decide +kernel
theorem dX8_session_53 : decode cX8_session 53 = .ok (.iload_n 2, 1) := by decide +kernel
theorem dX8_session_54 : decode cX8_session 54 = .ok (.ifCond .ne 13, 3) := by decide +kernel
theorem dX8_session_57 : decode cX8_session 57 = .ok (.aload_n 0, 1) := by decide +kernel
theorem dX8_session_58 : decode cX8_session 58 = .ok (.getfield 145, 3) := by decide +kernel
theorem dX8_session_61 : decode cX8_session 61 = .ok (.iload_n 1, 1) := by decide +kernel
theorem dX8_session_62 : decode cX8_session 62 = .ok (.iaload, 1) := by decide +kernel
theorem dX8_session_63 : decode cX8_session 63 = .ok (.i2l, 1) := by decide +kernel
theorem dX8_session_64 : decode cX8_session 64 = .ok (.goto 37, 3) := by decide +kernel
theorem dX8_session_67 : decode cX8_session 67 = .ok (.iload_n 2, 1) := by decide +kernel
theorem dX8_session_68 : decode cX8_session 68 = .ok (.iconst 1, 1) := by decide +kernel
theorem dX8_session_69 : decode cX8_session 69 = .ok (.if_icmp .ne 12, 3) := by decide +kernel
theorem dX8_session_72 : decode cX8_session 72 = .ok (.aload_n 0, 1) := by decide +kernel
theorem dX8_session_73 : decode cX8_session 73 = .ok (.getfield 148, 3) := by decide +kernel
theorem dX8_session_76 : decode cX8_session 76 = .ok (.iload_n 1, 1) := by decide +kernel
theorem dX8_session_77 : decode cX8_session 77 = .ok (.laload, 1) := by decide +kernel
theorem dX8_session_78 : decode cX8_session 78 = .ok (.goto 23, 3) := by decide +kernel
theorem dX8_session_81 : decode cX8_session 81 = .ok (.iload_n 2, 1) := by decide +kernel
theorem dX8_session_82 : decode cX8_session 82 = .ok (.iconst 2, 1) := by decide +kernel
theorem dX8_session_83 : decode cX8_session 83 = .ok (.if_icmp .ne 12, 3) := by decide +kernel
theorem dX8_session_86 : decode cX8_session 86 = .ok (.aload_n 0, 1) := by decide +kernel
theorem dX8_session_87 : decode cX8_session 87 = .ok (.getfield 151, 3) := by decide +kernel
theorem dX8_session_90 : decode cX8_session 90 = .ok (.iload_n 1, 1) := by decide +kernel
theorem dX8_session_91 : decode cX8_session 91 = .ok (.laload, 1) := by decide +kernel
theorem dX8_session_92 : decode cX8_session 92 = .ok (.goto 9, 3) := by decide +kernel
theorem dX8_session_95 : decode cX8_session 95 = .ok (.aload_n 0, 1) := by decide +kernel
theorem dX8_session_96 : decode cX8_session 96 = .ok (.getfield 154, 3) := by decide +kernel
theorem dX8_session_99 : decode cX8_session 99 = .ok (.iload_n 1, 1) := by decide +kernel
theorem dX8_session_100 : decode cX8_session 100 = .ok (.laload, 1) := by decide +kernel
theorem dX8_session_101 : decode cX8_session 101 = .ok (.lreturn, 1) := by decide +kernel
theorem dX8_count_0 : decode cX8_count 0 = .ok (.aload_n 0, 1) := by decide +kernel
theorem dX8_count_1 : decode cX8_count 1 = .ok (.iload_n 1, 1) := by decide +kernel
theorem dX8_count_2 : decode cX8_count 2 = .ok (.i2l, 1) := by decide +kernel
theorem dX8_count_3 : decode cX8_count 3 = .ok (.lconst 0, 1) := by decide +kernel
theorem dX8_count_4 : decode cX8_count 4 = .ok (.ldc2_w 288, 3) := by decide +kernel
theorem dX8_count_7 : decode cX8_count 7 = .ok (.invokestatic 223, 3) := by decide +kernel
theorem dX8_count_10 : decode cX8_count 10 = .ok (.ifCond .eq 7, 3) := by decide +kernel
theorem dX8_count_13 : decode cX8_count 13 = .ok (.iconst 0, 1) := by decide +kernel
theorem dX8_count_14 : decode cX8_count 14 = .ok (.goto 4, 3) := by decide +kernel
theorem dX8_count_17 : decode cX8_count 17 = .ok (.iconst 1, 1) := by decide +kernel
theorem dX8_count_18 : decode cX8_count 18 = .ok (.invokevirtual 227, 3) := by decide +kernel
theorem dX8_count_21 : decode cX8_count 21 = .ok (.ifCond .eq 5, 3) := by decide +kernel
theorem dX8_count_24 : decode cX8_count 24 = .ok (.iconst 0, 1) := by decide +kernel
theorem dX8_count_25 : decode cX8_count 25 = .ok (.ireturn, 1) := by decide +kernel
theorem dX8_count_26 : decode cX8_count 26 = .ok (.iconst 0, 1) := by decide +kernel
theorem dX8_count_27 : decode cX8_count 27 = .ok (.istore_n 2, 1) := by decide +kernel
theorem dX8_count_28 : decode cX8_count 28 = .ok (.iconst 0, 1) := by decide +kernel
theorem dX8_count_29 : decode cX8_count 29 = .ok (.istore_n 3, 1) := by decide +kernel
theorem dX8_count_30 : decode cX8_count 30 = .ok (.iload_n 3, 1) := by decide +kernel
theorem dX8_count_31 : decode cX8_count 31 = .ok (.bipush 8, 2) := by decide +kernel
theorem dX8_count_33 : decode cX8_count 33 = .ok (.if_icmp .ge 59, 3) := by decide +kernel
theorem dX8_count_36 : decode cX8_count 36 = .ok (.iload_n 2, 1) := by decide +kernel
theorem dX8_count_37 : decode cX8_count 37 = .ok (.iload_n 1, 1) := by decide +kernel
theorem dX8_count_38 : decode cX8_count 38 = .ok (.ifCond .ne 20, 3) := by decide +kernel
theorem dX8_count_41 : decode cX8_count 41 = .ok (.aload_n 0, 1) := by decide +kernel
theorem dX8_count_42 : decode cX8_count 42 = .ok (.getfield 142, 3) := by decide +kernel
theorem dX8_count_45 : decode cX8_count 45 = .ok (.iload_n 3, 1) := by decide +kernel
theorem dX8_count_46 : decode cX8_count 46 = .ok (.baload, 1) := by decide +kernel
theorem dX8_count_47 : decode cX8_count 47 = .ok (.ifCond .eq 7, 3) := by decide +kernel
theorem dX8_count_50 : decode cX8_count 50 = .ok (.iconst 1, 1) := by decide +kernel
theorem dX8_count_51 : decode cX8_count 51 = .ok (.goto 33, 3) := by decide +kernel
theorem dX8_count_54 : decode cX8_count 54 = .ok (.iconst 0, 1) := by decide +kernel
theorem dX8_count_55 : decode cX8_count 55 = .ok (.goto 29, 3) := by decide +kernel
theorem dX8_count_58 : decode cX8_count 58 = .ok (.iload_n 1, 1) := by decide +kernel
theorem dX8_count_59 : decode cX8_count 59 = .ok (.iconst 5, 1) := by decide +kernel
theorem dX8_count_60 : decode cX8_count 60 = .ok (.if_icmp .ne 23, 3) := by decide +kernel
theorem dX8_count_63 : decode cX8_count 63 = .ok (.iload_n 3, 1) := by decide +kernel
theorem dX8_count_64 : decode cX8_count 64 = .ok (.aload_n 0, 1) := by decide +kernel
theorem dX8_count_65 : decode cX8_count 65 = .ok (.getfield 118, 3) := by decide +kernel
theorem dX8_count_68 : decode cX8_count 68 = .ok (.if_icmp .ge 15, 3) := by decide +kernel
theorem dX8_count_71 : decode cX8_count 71 = .ok (.aload_n 0, 1) := by decide +kernel
theorem dX8_count_72 : decode cX8_count 72 = .ok (.iload_n 3, 1) := by decide +kernel
theorem dX8_count_73 : decode cX8_count 73 = .ok (.invokevirtual 261, 3) := by decide +kernel
theorem dX8_count_76 : decode cX8_count 76 = .ok (.ifCond .eq 7, 3) := by decide +kernel
theorem dX8_count_79 : decode cX8_count 79 = .ok (.iconst 1, 1) := by decide +kernel
theorem dX8_count_80 : decode cX8_count 80 = .ok (.goto 4, 3) := by decide +kernel
theorem dX8_count_83 : decode cX8_count 83 = .ok (.iconst 0, 1) := by decide +kernel
theorem dX8_count_84 : decode cX8_count 84 = .ok (.iadd, 1) := by decide +kernel
theorem dX8_count_85 : decode cX8_count 85 = .ok (.istore_n 2, 1) := by decide +kernel
theorem dX8_count_86 : decode cX8_count 86 = .ok (.iinc 3 1, 3) := by decide +kernel
theorem dX8_count_89 : decode cX8_count 89 = .ok (.goto (-59), 3) := by decide +kernel
theorem dX8_count_92 : decode cX8_count 92 = .ok (.iload_n 1, 1) := by decide +kernel
theorem dX8_count_93 : decode cX8_count 93 = .ok (.iconst 1, 1) := by decide +kernel
theorem dX8_count_94 : decode cX8_count 94 = .ok (.if_icmp .ne 11, 3) := by decide +kernel
theorem dX8_count_97 : decode cX8_count 97 = .ok (.aload_n 0, 1) := by decide +kernel
theorem dX8_count_98 : decode cX8_count 98 = .ok (.getfield 191, 3) := by decide +kernel
theorem dX8_count_101 : decode cX8_count 101 = .ok (.l2i, 1) := by decide +kernel
theorem dX8_count_102 : decode cX8_count 102 = .ok (.goto 60, 3) := by decide +kernel
theorem dX8_count_105 : decode cX8_count 105 = .ok (.iload_n 1, 1) := by decide +kernel
theorem dX8_count_106 : decode cX8_count 106 = .ok (.iconst 2, 1) := by decide +kernel
theorem dX8_count_107 : decode cX8_count 107 = .ok (.if_icmp .ne 10, 3) := by decide +kernel
theorem dX8_count_110 : decode cX8_count 110 = .ok (.aload_n 0, 1) := by decide +kernel
theorem dX8_count_111 : decode cX8_count 111 = .ok (.getfield 271, 3) := by decide +kernel
theorem dX8_count_114 : decode cX8_count 114 = .ok (.goto 48, 3) := by decide +kernel
theorem dX8_count_117 : decode cX8_count 117 = .ok (.iload_n 1, 1) := by decide +kernel
theorem dX8_count_118 : decode cX8_count 118 = .ok (.iconst 3, 1) := by decide +kernel
theorem dX8_count_119 : decode cX8_count 119 = .ok (.if_icmp .ne 10, 3) := by decide +kernel
theorem dX8_count_122 : decode cX8_count 122 = .ok (.aload_n 0, 1) := by decide +kernel
theorem dX8_count_123 : decode cX8_count 123 = .ok (.getfield 268, 3) := by decide +kernel
theorem dX8_count_126 : decode cX8_count 126 = .ok (.goto 36, 3) := by decide +kernel
theorem dX8_count_129 : decode cX8_count 129 = .ok (.iload_n 1, 1) := by decide +kernel
theorem dX8_count_130 : decode cX8_count 130 = .ok (.iconst 4, 1) := by decide +kernel
theorem dX8_count_131 : decode cX8_count 131 = .ok (.if_icmp .ne 10, 3) := by decide +kernel
theorem dX8_count_134 : decode cX8_count 134 = .ok (.aload_n 0, 1) := by decide +kernel
theorem dX8_count_135 : decode cX8_count 135 = .ok (.getfield 274, 3) := by decide +kernel
theorem dX8_count_138 : decode cX8_count 138 = .ok (.goto 24, 3) := by decide +kernel
theorem dX8_count_141 : decode cX8_count 141 = .ok (.iload_n 1, 1) := by decide +kernel
theorem dX8_count_142 : decode cX8_count 142 = .ok (.bipush 6, 2) := by decide +kernel
theorem dX8_count_144 : decode cX8_count 144 = .ok (.if_icmp .ne 17, 3) := by decide +kernel
theorem dX8_count_147 : decode cX8_count 147 = .ok (.aload_n 0, 1) := by decide +kernel
theorem dX8_count_148 : decode cX8_count 148 = .ok (.getfield 122, 3) := by decide +kernel
theorem dX8_count_151 : decode cX8_count 151 = .ok (.aload_n 0, 1) := by decide +kernel
theorem dX8_count_152 : decode cX8_count 152 = .ok (.getfield 118, 3) := by decide +kernel
theorem dX8_count_155 : decode cX8_count 155 = .ok (.iconst 1, 1) := by decide +kernel
theorem dX8_count_156 : decode cX8_count 156 = .ok (.isub, 1) := by decide +kernel
theorem dX8_count_157 : decode cX8_count 157 = .ok (.iaload, 1) := by decide +kernel
theorem dX8_count_158 : decode cX8_count 158 = .ok (.goto 4, 3) := by decide +kernel
theorem dX8_count_161 : decode cX8_count 161 = .ok (.iload_n 2, 1) := by decide +kernel
theorem dX8_count_162 : decode cX8_count 162 = .ok (.ireturn, 1) := by decide +kernel
theorem dX8_octet_0 : decode cX8_octet 0 = .ok (.aload_n 0, 1) := by decide +kernel
theorem dX8_octet_1 : decode cX8_octet 1 = .ok (.iload_n 1, 1) := by decide +kernel
theorem dX8_octet_2 : decode cX8_octet 2 = .ok (.i2l, 1) := by decide +kernel
theorem dX8_octet_3 : decode cX8_octet 3 = .ok (.lconst 0, 1) := by decide +kernel
theorem dX8_octet_4 : decode cX8_octet 4 = .ok (.ldc2_w 290, 3) := by decide +kernel
theorem dX8_octet_7 : decode cX8_octet 7 = .ok (.invokestatic 223, 3) := by decide +kernel
theorem dX8_octet_10 : decode cX8_octet 10 = .ok (.ifCond .eq 7, 3) := by decide +kernel
theorem dX8_octet_13 : decode cX8_octet 13 = .ok (.iconst 0, 1) := by decide +kernel
theorem dX8_octet_14 : decode cX8_octet 14 = .ok (.goto 4, 3) := by decide +kernel
theorem dX8_octet_17 : decode cX8_octet 17 = .ok (.iconst 1, 1) := by decide +kernel
theorem dX8_octet_18 : decode cX8_octet 18 = .ok (.invokevirtual 227, 3) := by decide +kernel
theorem dX8_octet_21 : decode cX8_octet 21 = .ok (.ifCond .eq 5, 3) := by decide +kernel
theorem dX8_octet_24 : decode cX8_octet 24 = .ok (.iconst 0, 1) := by decide +kernel
theorem dX8_octet_25 : decode cX8_octet 25 = .ok (.ireturn, 1) := by decide +kernel
theorem dX8_octet_26 : decode cX8_octet 26 = .ok (.aload_n 0, 1) := by decide +kernel
theorem dX8_octet_27 : decode cX8_octet 27 = .ok (.aload_n 0, 1) := by decide +kernel
theorem dX8_octet_28 : decode cX8_octet 28 = .ok (.getfield 118, 3) := by decide +kernel
theorem dX8_octet_31 : decode cX8_octet 31 = .ok (.iconst 1, 1) := by decide +kernel
theorem dX8_octet_32 : decode cX8_octet 32 = .ok (.isub, 1) := by decide +kernel
theorem dX8_octet_33 : decode cX8_octet 33 = .ok (.invokevirtual 204, 3) := by decide +kernel
theorem dX8_octet_36 : decode cX8_octet 36 = .ok (.aload_n 0, 1) := by decide +kernel
theorem dX8_octet_37 : decode cX8_octet 37 = .ok (.iconst 0, 1) := by decide +kernel
theorem dX8_octet_38 : decode cX8_octet 38 = .ok (.putfield 180, 3) := by decide +kernel
theorem dX8_octet_41 : decode cX8_octet 41 = .ok (.iconst 0, 1) := by decide +kernel
theorem dX8_octet_42 : decode cX8_octet 42 = .ok (.istore_n 2, 1) := by decide +kernel
theorem dX8_octet_43 : decode cX8_octet 43 = .ok (.iload_n 2, 1) := by decide +kernel
theorem dX8_octet_44 : decode cX8_octet 44 = .ok (.aload_n 0, 1) := by decide +kernel
theorem dX8_octet_45 : decode cX8_octet 45 = .ok (.getfield 157, 3) := by decide +kernel
theorem dX8_octet_48 : decode cX8_octet 48 = .ok (.iconst 0, 1) := by decide +kernel
theorem dX8_octet_49 : decode cX8_octet 49 = .ok (.iaload, 1) := by decide +kernel
theorem dX8_octet_50 : decode cX8_octet 50 = .ok (.if_icmp .ge 19, 3) := by decide +kernel
theorem dX8_octet_53 : decode cX8_octet 53 = .ok (.aload_n 0, 1) := by decide +kernel
theorem dX8_octet_54 : decode cX8_octet 54 = .ok (.aload_n 0, 1) := by decide +kernel
theorem dX8_octet_55 : decode cX8_octet 55 = .ok (.getfield 160, 3) := by decide +kernel
theorem dX8_octet_58 : decode cX8_octet 58 = .ok (.iload_n 2, 1) := by decide +kernel
theorem dX8_octet_59 : decode cX8_octet 59 = .ok (.iaload, 1) := by decide +kernel
theorem dX8_octet_60 : decode cX8_octet 60 = .ok (.invokevirtual 194, 3) := by decide +kernel
theorem dX8_octet_63 : decode cX8_octet 63 = .ok (.iinc 2 1, 3) := by decide +kernel
theorem dX8_octet_66 : decode cX8_octet 66 = .ok (.goto (-23), 3) := by decide +kernel
theorem dX8_octet_69 : decode cX8_octet 69 = .ok (.aload_n 0, 1) := by decide +kernel
theorem dX8_octet_70 : decode cX8_octet 70 = .ok (.invokevirtual 197, 3) := by decide +kernel
theorem dX8_octet_73 : decode cX8_octet 73 = .ok (.aload_n 0, 1) := by decide +kernel
theorem dX8_octet_74 : decode cX8_octet 74 = .ok (.getfield 97, 3) := by decide +kernel
theorem dX8_octet_77 : decode cX8_octet 77 = .ok (.iload_n 1, 1) := by decide +kernel
theorem dX8_octet_78 : decode cX8_octet 78 = .ok (.iaload, 1) := by decide +kernel
theorem dX8_octet_79 : decode cX8_octet 79 = .ok (.ireturn, 1) := by decide +kernel
theorem dL_pass_0 : decode cL_pass 0 = .ok (.aload_n 3, 1) := by decide +kernel
theorem dL_pass_1 : decode cL_pass 1 = .ok (.iconst 0, 1) := by decide +kernel
theorem dL_pass_2 : decode cL_pass 2 = .ok (.aload_n 0, 1) := by decide +kernel
theorem dL_pass_3 : decode cL_pass 3 = .ok (.lload_n 1, 1) := by decide +kernel
theorem dL_pass_4 : decode cL_pass 4 = .ok (.invokevirtual 7, 3) := by decide +kernel
theorem dL_pass_7 : decode cL_pass 7 = .ok (.lastore, 1) := by decide +kernel
theorem dL_pass_8 : decode cL_pass 8 = .ok (.goto 7, 3) := by decide +kernel
theorem dL_pass_11 : decode cL_pass 11 = .ok (.astore 4, 2) := by decide +kernel
theorem dL_pass_13 : decode cL_pass 13 = .ok (.iconst 1, 1) := by decide +kernel
theorem dL_pass_14 : decode cL_pass 14 = .ok (.ireturn, 1) := by decide +kernel
theorem dL_pass_15 : decode cL_pass 15 = .ok (.iconst 0, 1) := by decide +kernel
theorem dL_pass_16 : decode cL_pass 16 = .ok (.ireturn, 1) := by decide +kernel
theorem dL_limits_0 : decode cL_limits 0 = .ok (.aload_n 0, 1) := by decide +kernel
theorem dL_limits_1 : decode cL_limits 1 = .ok (.lload_n 1, 1) := by decide +kernel
theorem dL_limits_2 : decode cL_limits 2 = .ok (.lload_n 3, 1) := by decide +kernel
theorem dL_limits_3 : decode cL_limits 3 = .ok (.lload 5, 2) := by decide +kernel
theorem dL_limits_5 : decode cL_limits 5 = .ok (.invokevirtual 15, 3) := by decide +kernel
theorem dL_limits_8 : decode cL_limits 8 = .ok (.goto 7, 3) := by decide +kernel
theorem dL_limits_11 : decode cL_limits 11 = .ok (.astore 7, 2) := by decide +kernel
theorem dL_limits_13 : decode cL_limits 13 = .ok (.iconst 1, 1) := by decide +kernel
theorem dL_limits_14 : decode cL_limits 14 = .ok (.ireturn, 1) := by decide +kernel
theorem dL_limits_15 : decode cL_limits 15 = .ok (.iconst 0, 1) := by decide +kernel
theorem dL_limits_16 : decode cL_limits 16 = .ok (.ireturn, 1) := by decide +kernel
theorem dL_user_0 : decode cL_user 0 = .ok (.aload_n 0, 1) := by decide +kernel
theorem dL_user_1 : decode cL_user 1 = .ok (.iload_n 1, 1) := by decide +kernel
theorem dL_user_2 : decode cL_user 2 = .ok (.iload_n 2, 1) := by decide +kernel
theorem dL_user_3 : decode cL_user 3 = .ok (.iload_n 3, 1) := by decide +kernel
theorem dL_user_4 : decode cL_user 4 = .ok (.invokevirtual 19, 3) := by decide +kernel
theorem dL_user_7 : decode cL_user 7 = .ok (.goto 7, 3) := by decide +kernel
theorem dL_user_10 : decode cL_user 10 = .ok (.astore 4, 2) := by decide +kernel
theorem dL_user_12 : decode cL_user 12 = .ok (.iconst 1, 1) := by decide +kernel
theorem dL_user_13 : decode cL_user 13 = .ok (.ireturn, 1) := by decide +kernel
theorem dL_user_14 : decode cL_user 14 = .ok (.iconst 0, 1) := by decide +kernel
theorem dL_user_15 : decode cL_user 15 = .ok (.ireturn, 1) := by decide +kernel
theorem dL_login_0 : decode cL_login 0 = .ok (.aload 4, 2) := by decide +kernel
theorem dL_login_2 : decode cL_login 2 = .ok (.iconst 0, 1) := by decide +kernel
theorem dL_login_3 : decode cL_login 3 = .ok (.aload_n 0, 1) := by decide +kernel
theorem dL_login_4 : decode cL_login 4 = .ok (.iload_n 1, 1) := by decide +kernel
theorem dL_login_5 : decode cL_login 5 = .ok (.iload_n 2, 1) := by decide +kernel
theorem dL_login_6 : decode cL_login 6 = .ok (.iload_n 3, 1) := by decide +kernel
theorem dL_login_7 : decode cL_login 7 = .ok (.invokevirtual 23, 3) := by decide +kernel
theorem dL_login_10 : decode cL_login 10 = .ok (.i2l, 1) := by decide +kernel
theorem dL_login_11 : decode cL_login 11 = .ok (.lastore, 1) := by decide +kernel
theorem dL_login_12 : decode cL_login 12 = .ok (.goto 7, 3) := by decide +kernel
theorem dL_login_15 : decode cL_login 15 = .ok (.astore 5, 2) := by decide +kernel
theorem dL_login_17 : decode cL_login 17 = .ok (.iconst 1, 1) := by decide +kernel
theorem dL_login_18 : decode cL_login 18 = .ok (.ireturn, 1) := by decide +kernel
theorem dL_login_19 : decode cL_login 19 = .ok (.iconst 0, 1) := by decide +kernel
theorem dL_login_20 : decode cL_login 20 = .ok (.ireturn, 1) := by decide +kernel
theorem dL_revoke_0 : decode cL_revoke 0 = .ok (.aload_n 2, 1) := by decide +kernel
theorem dL_revoke_1 : decode cL_revoke 1 = .ok (.iconst 0, 1) := by decide +kernel
theorem dL_revoke_2 : decode cL_revoke 2 = .ok (.aload_n 0, 1) := by decide +kernel
theorem dL_revoke_3 : decode cL_revoke 3 = .ok (.iload_n 1, 1) := by decide +kernel
theorem dL_revoke_4 : decode cL_revoke 4 = .ok (.invokevirtual 27, 3) := by decide +kernel
theorem dL_revoke_7 : decode cL_revoke 7 = .ok (.i2l, 1) := by decide +kernel
theorem dL_revoke_8 : decode cL_revoke 8 = .ok (.lastore, 1) := by decide +kernel
theorem dL_revoke_9 : decode cL_revoke 9 = .ok (.goto 6, 3) := by decide +kernel
theorem dL_revoke_12 : decode cL_revoke 12 = .ok (.astore_n 3, 1) := by decide +kernel
theorem dL_revoke_13 : decode cL_revoke 13 = .ok (.iconst 1, 1) := by decide +kernel
theorem dL_revoke_14 : decode cL_revoke 14 = .ok (.ireturn, 1) := by decide +kernel
theorem dL_revoke_15 : decode cL_revoke 15 = .ok (.iconst 0, 1) := by decide +kernel
theorem dL_revoke_16 : decode cL_revoke 16 = .ok (.ireturn, 1) := by decide +kernel
theorem dL_type_0 : decode cL_type 0 = .ok (.aload 6, 2) := by decide +kernel
theorem dL_type_2 : decode cL_type 2 = .ok (.iconst 0, 1) := by decide +kernel
theorem dL_type_3 : decode cL_type 3 = .ok (.aload_n 0, 1) := by decide +kernel
theorem dL_type_4 : decode cL_type 4 = .ok (.iload_n 1, 1) := by decide +kernel
theorem dL_type_5 : decode cL_type 5 = .ok (.iload_n 2, 1) := by decide +kernel
theorem dL_type_6 : decode cL_type 6 = .ok (.iload_n 3, 1) := by decide +kernel
theorem dL_type_7 : decode cL_type 7 = .ok (.iload 4, 2) := by decide +kernel
theorem dL_type_9 : decode cL_type 9 = .ok (.iload 5, 2) := by decide +kernel
theorem dL_type_11 : decode cL_type 11 = .ok (.invokevirtual 31, 3) := by decide +kernel
theorem dL_type_14 : decode cL_type 14 = .ok (.i2l, 1) := by decide +kernel
theorem dL_type_15 : decode cL_type 15 = .ok (.lastore, 1) := by decide +kernel
theorem dL_type_16 : decode cL_type 16 = .ok (.goto 11, 3) := by decide +kernel
theorem dL_type_19 : decode cL_type 19 = .ok (.astore 7, 2) := by decide +kernel
theorem dL_type_21 : decode cL_type 21 = .ok (.iconst 1, 1) := by decide +kernel
theorem dL_type_22 : decode cL_type 22 = .ok (.ireturn, 1) := by decide +kernel
theorem dL_type_23 : decode cL_type 23 = .ok (.astore 7, 2) := by decide +kernel
theorem dL_type_25 : decode cL_type 25 = .ok (.iconst 2, 1) := by decide +kernel
theorem dL_type_26 : decode cL_type 26 = .ok (.ireturn, 1) := by decide +kernel
theorem dL_type_27 : decode cL_type 27 = .ok (.iconst 0, 1) := by decide +kernel
theorem dL_type_28 : decode cL_type 28 = .ok (.ireturn, 1) := by decide +kernel
theorem dL_erase_0 : decode cL_erase 0 = .ok (.aload_n 2, 1) := by decide +kernel
theorem dL_erase_1 : decode cL_erase 1 = .ok (.iconst 0, 1) := by decide +kernel
theorem dL_erase_2 : decode cL_erase 2 = .ok (.aload_n 0, 1) := by decide +kernel
theorem dL_erase_3 : decode cL_erase 3 = .ok (.iload_n 1, 1) := by decide +kernel
theorem dL_erase_4 : decode cL_erase 4 = .ok (.invokevirtual 37, 3) := by decide +kernel
theorem dL_erase_7 : decode cL_erase 7 = .ok (.i2l, 1) := by decide +kernel
theorem dL_erase_8 : decode cL_erase 8 = .ok (.lastore, 1) := by decide +kernel
theorem dL_erase_9 : decode cL_erase 9 = .ok (.goto 6, 3) := by decide +kernel
theorem dL_erase_12 : decode cL_erase 12 = .ok (.astore_n 3, 1) := by decide +kernel
theorem dL_erase_13 : decode cL_erase 13 = .ok (.iconst 1, 1) := by decide +kernel
theorem dL_erase_14 : decode cL_erase 14 = .ok (.ireturn, 1) := by decide +kernel
theorem dL_erase_15 : decode cL_erase 15 = .ok (.iconst 0, 1) := by decide +kernel
theorem dL_erase_16 : decode cL_erase 16 = .ok (.ireturn, 1) := by decide +kernel
theorem dL_put_0 : decode cL_put 0 = .ok (.aload 4, 2) := by decide +kernel
theorem dL_put_2 : decode cL_put 2 = .ok (.iconst 0, 1) := by decide +kernel
theorem dL_put_3 : decode cL_put 3 = .ok (.aload_n 0, 1) := by decide +kernel
theorem dL_put_4 : decode cL_put 4 = .ok (.iload_n 1, 1) := by decide +kernel
theorem dL_put_5 : decode cL_put 5 = .ok (.iload_n 2, 1) := by decide +kernel
theorem dL_put_6 : decode cL_put 6 = .ok (.iload_n 3, 1) := by decide +kernel
theorem dL_put_7 : decode cL_put 7 = .ok (.invokevirtual 40, 3) := by decide +kernel
theorem dL_put_10 : decode cL_put 10 = .ok (.i2l, 1) := by decide +kernel
theorem dL_put_11 : decode cL_put 11 = .ok (.lastore, 1) := by decide +kernel
theorem dL_put_12 : decode cL_put 12 = .ok (.goto 11, 3) := by decide +kernel
theorem dL_put_15 : decode cL_put 15 = .ok (.astore 5, 2) := by decide +kernel
theorem dL_put_17 : decode cL_put 17 = .ok (.iconst 1, 1) := by decide +kernel
theorem dL_put_18 : decode cL_put 18 = .ok (.ireturn, 1) := by decide +kernel
theorem dL_put_19 : decode cL_put 19 = .ok (.astore 5, 2) := by decide +kernel
theorem dL_put_21 : decode cL_put 21 = .ok (.iconst 2, 1) := by decide +kernel
theorem dL_put_22 : decode cL_put 22 = .ok (.ireturn, 1) := by decide +kernel
theorem dL_put_23 : decode cL_put 23 = .ok (.iconst 0, 1) := by decide +kernel
theorem dL_put_24 : decode cL_put 24 = .ok (.ireturn, 1) := by decide +kernel
theorem dL_sign_0 : decode cL_sign 0 = .ok (.aload_n 3, 1) := by decide +kernel
theorem dL_sign_1 : decode cL_sign 1 = .ok (.iconst 0, 1) := by decide +kernel
theorem dL_sign_2 : decode cL_sign 2 = .ok (.aload_n 0, 1) := by decide +kernel
theorem dL_sign_3 : decode cL_sign 3 = .ok (.iload_n 1, 1) := by decide +kernel
theorem dL_sign_4 : decode cL_sign 4 = .ok (.iload_n 2, 1) := by decide +kernel
theorem dL_sign_5 : decode cL_sign 5 = .ok (.invokevirtual 45, 3) := by decide +kernel
theorem dL_sign_8 : decode cL_sign 8 = .ok (.i2l, 1) := by decide +kernel
theorem dL_sign_9 : decode cL_sign 9 = .ok (.lastore, 1) := by decide +kernel
theorem dL_sign_10 : decode cL_sign 10 = .ok (.goto 7, 3) := by decide +kernel
theorem dL_sign_13 : decode cL_sign 13 = .ok (.astore 4, 2) := by decide +kernel
theorem dL_sign_15 : decode cL_sign 15 = .ok (.iconst 1, 1) := by decide +kernel
theorem dL_sign_16 : decode cL_sign 16 = .ok (.ireturn, 1) := by decide +kernel
theorem dL_sign_17 : decode cL_sign 17 = .ok (.iconst 0, 1) := by decide +kernel
theorem dL_sign_18 : decode cL_sign 18 = .ok (.ireturn, 1) := by decide +kernel
theorem dL_session_0 : decode cL_session 0 = .ok (.aload_n 3, 1) := by decide +kernel
theorem dL_session_1 : decode cL_session 1 = .ok (.iconst 0, 1) := by decide +kernel
theorem dL_session_2 : decode cL_session 2 = .ok (.aload_n 0, 1) := by decide +kernel
theorem dL_session_3 : decode cL_session 3 = .ok (.iload_n 1, 1) := by decide +kernel
theorem dL_session_4 : decode cL_session 4 = .ok (.iload_n 2, 1) := by decide +kernel
theorem dL_session_5 : decode cL_session 5 = .ok (.invokevirtual 49, 3) := by decide +kernel
theorem dL_session_8 : decode cL_session 8 = .ok (.lastore, 1) := by decide +kernel
theorem dL_session_9 : decode cL_session 9 = .ok (.goto 7, 3) := by decide +kernel
theorem dL_session_12 : decode cL_session 12 = .ok (.astore 4, 2) := by decide +kernel
theorem dL_session_14 : decode cL_session 14 = .ok (.iconst 1, 1) := by decide +kernel
theorem dL_session_15 : decode cL_session 15 = .ok (.ireturn, 1) := by decide +kernel
theorem dL_session_16 : decode cL_session 16 = .ok (.iconst 0, 1) := by decide +kernel
theorem dL_session_17 : decode cL_session 17 = .ok (.ireturn, 1) := by decide +kernel
theorem dL_count_0 : decode cL_count 0 = .ok (.aload_n 2, 1) := by decide +kernel
theorem dL_count_1 : decode cL_count 1 = .ok (.iconst 0, 1) := by decide +kernel
theorem dL_count_2 : decode cL_count 2 = .ok (.aload_n 0, 1) := by decide +kernel
theorem dL_count_3 : decode cL_count 3 = .ok (.iload_n 1, 1) := by decide +kernel
theorem dL_count_4 : decode cL_count 4 = .ok (.invokevirtual 53, 3) := by decide +kernel
theorem dL_count_7 : decode cL_count 7 = .ok (.i2l, 1) := by decide +kernel
theorem dL_count_8 : decode cL_count 8 = .ok (.lastore, 1) := by decide +kernel
theorem dL_count_9 : decode cL_count 9 = .ok (.goto 6, 3) := by decide +kernel
theorem dL_count_12 : decode cL_count 12 = .ok (.astore_n 3, 1) := by decide +kernel
theorem dL_count_13 : decode cL_count 13 = .ok (.iconst 1, 1) := by decide +kernel
theorem dL_count_14 : decode cL_count 14 = .ok (.ireturn, 1) := by decide +kernel
theorem dL_count_15 : decode cL_count 15 = .ok (.iconst 0, 1) := by decide +kernel
theorem dL_count_16 : decode cL_count 16 = .ok (.ireturn, 1) := by decide +kernel
theorem dL_octet_0 : decode cL_octet 0 = .ok (.aload_n 2, 1) := by decide +kernel
theorem dL_octet_1 : decode cL_octet 1 = .ok (.iconst 0, 1) := by decide +kernel
theorem dL_octet_2 : decode cL_octet 2 = .ok (.aload_n 0, 1) := by decide +kernel
theorem dL_octet_3 : decode cL_octet 3 = .ok (.iload_n 1, 1) := by decide +kernel
theorem dL_octet_4 : decode cL_octet 4 = .ok (.invokevirtual 56, 3) := by decide +kernel
theorem dL_octet_7 : decode cL_octet 7 = .ok (.i2l, 1) := by decide +kernel
theorem dL_octet_8 : decode cL_octet 8 = .ok (.lastore, 1) := by decide +kernel
theorem dL_octet_9 : decode cL_octet 9 = .ok (.goto 6, 3) := by decide +kernel
theorem dL_octet_12 : decode cL_octet 12 = .ok (.astore_n 3, 1) := by decide +kernel
theorem dL_octet_13 : decode cL_octet 13 = .ok (.iconst 1, 1) := by decide +kernel
theorem dL_octet_14 : decode cL_octet 14 = .ok (.ireturn, 1) := by decide +kernel
theorem dL_octet_15 : decode cL_octet 15 = .ok (.iconst 0, 1) := by decide +kernel
theorem dL_octet_16 : decode cL_octet 16 = .ok (.ireturn, 1) := by decide +kernel
end
section
theorem dX8_block_0 : decode cX8_block 0 = .ok (.iconst 0, 1) := by decide +kernel
theorem dX8_block_1 : decode cX8_block 1 = .ok (.istore_n 2, 1) := by decide +kernel
theorem dX8_block_2 : decode cX8_block 2 = .ok (.iload_n 2, 1) := by decide +kernel
theorem dX8_block_3 : decode cX8_block 3 = .ok (.bipush 16, 2) := by decide +kernel
theorem dX8_block_5 : decode cX8_block 5 = .ok (.if_icmp .ge 63, 3) := by decide +kernel
theorem dX8_block_8 : decode cX8_block 8 = .ok (.iload_n 1, 1) := by decide +kernel
theorem dX8_block_9 : decode cX8_block 9 = .ok (.iconst 4, 1) := by decide +kernel
theorem dX8_block_10 : decode cX8_block 10 = .ok (.iload_n 2, 1) := by decide +kernel
theorem dX8_block_11 : decode cX8_block 11 = .ok (.imul, 1) := by decide +kernel
theorem dX8_block_12 : decode cX8_block 12 = .ok (.iadd, 1) := by decide +kernel
theorem dX8_block_13 : decode cX8_block 13 = .ok (.istore_n 3, 1) := by decide +kernel
theorem dX8_block_14 : decode cX8_block 14 = .ok (.aload_n 0, 1) := by decide +kernel
theorem dX8_block_15 : decode cX8_block 15 = .ok (.getfield 91, 3) := by decide +kernel
theorem dX8_block_18 : decode cX8_block 18 = .ok (.iload_n 2, 1) := by decide +kernel
theorem dX8_block_19 : decode cX8_block 19 = .ok (.aload_n 0, 1) := by decide +kernel
theorem dX8_block_20 : decode cX8_block 20 = .ok (.getfield 94, 3) := by decide +kernel
theorem dX8_block_23 : decode cX8_block 23 = .ok (.iload_n 3, 1) := by decide +kernel
theorem dX8_block_24 : decode cX8_block 24 = .ok (.iaload, 1) := by decide +kernel
theorem dX8_block_25 : decode cX8_block 25 = .ok (.bipush 24, 2) := by decide +kernel
theorem dX8_block_27 : decode cX8_block 27 = .ok (.ishl, 1) := by decide +kernel
theorem dX8_block_28 : decode cX8_block 28 = .ok (.aload_n 0, 1) := by decide +kernel
theorem dX8_block_29 : decode cX8_block 29 = .ok (.getfield 94, 3) := by decide +kernel
theorem dX8_block_32 : decode cX8_block 32 = .ok (.iload_n 3, 1) := by decide +kernel
theorem dX8_block_33 : decode cX8_block 33 = .ok (.iconst 1, 1) := by decide +kernel
theorem dX8_block_34 : decode cX8_block 34 = .ok (.iadd, 1) := by decide +kernel
theorem dX8_block_35 : decode cX8_block 35 = .ok (.iaload, 1) := by decide +kernel
theorem dX8_block_36 : decode cX8_block 36 = .ok (.bipush 16, 2) := by decide +kernel
theorem dX8_block_38 : decode cX8_block 38 = .ok (.ishl, 1) := by decide +kernel
theorem dX8_block_39 : decode cX8_block 39 = .ok (.ior, 1) := by decide +kernel
theorem dX8_block_40 : decode cX8_block 40 = .ok (.aload_n 0, 1) := by decide +kernel
theorem dX8_block_41 : decode cX8_block 41 = .ok (.getfield 94, 3) := by decide +kernel
theorem dX8_block_44 : decode cX8_block 44 = .ok (.iload_n 3, 1) := by decide +kernel
theorem dX8_block_45 : decode cX8_block 45 = .ok (.iconst 2, 1) := by decide +kernel
theorem dX8_block_46 : decode cX8_block 46 = .ok (.iadd, 1) := by decide +kernel
theorem dX8_block_47 : decode cX8_block 47 = .ok (.iaload, 1) := by decide +kernel
theorem dX8_block_48 : decode cX8_block 48 = .ok (.bipush 8, 2) := by decide +kernel
theorem dX8_block_50 : decode cX8_block 50 = .ok (.ishl, 1) := by decide +kernel
theorem dX8_block_51 : decode cX8_block 51 = .ok (.ior, 1) := by decide +kernel
theorem dX8_block_52 : decode cX8_block 52 = .ok (.aload_n 0, 1) := by decide +kernel
theorem dX8_block_53 : decode cX8_block 53 = .ok (.getfield 94, 3) := by decide +kernel
theorem dX8_block_56 : decode cX8_block 56 = .ok (.iload_n 3, 1) := by decide +kernel
theorem dX8_block_57 : decode cX8_block 57 = .ok (.iconst 3, 1) := by decide +kernel
theorem dX8_block_58 : decode cX8_block 58 = .ok (.iadd, 1) := by decide +kernel
theorem dX8_block_59 : decode cX8_block 59 = .ok (.iaload, 1) := by decide +kernel
theorem dX8_block_60 : decode cX8_block 60 = .ok (.ior, 1) := by decide +kernel
theorem dX8_block_61 : decode cX8_block 61 = .ok (.iastore, 1) := by decide +kernel
theorem dX8_block_62 : decode cX8_block 62 = .ok (.iinc 2 1, 3) := by decide +kernel
theorem dX8_block_65 : decode cX8_block 65 = .ok (.goto (-63), 3) := by decide +kernel
theorem dX8_block_68 : decode cX8_block 68 = .ok (.bipush 16, 2) := by decide +kernel
theorem dX8_block_70 : decode cX8_block 70 = .ok (.istore_n 2, 1) := by decide +kernel
theorem dX8_block_71 : decode cX8_block 71 = .ok (.iload_n 2, 1) := by decide +kernel
theorem dX8_block_72 : decode cX8_block 72 = .ok (.bipush 64, 2) := by decide +kernel
theorem dX8_block_74 : decode cX8_block 74 = .ok (.if_icmp .ge 94, 3) := by decide +kernel
theorem dX8_block_77 : decode cX8_block 77 = .ok (.aload_n 0, 1) := by decide +kernel
theorem dX8_block_78 : decode cX8_block 78 = .ok (.getfield 91, 3) := by decide +kernel
theorem dX8_block_81 : decode cX8_block 81 = .ok (.iload_n 2, 1) := by decide +kernel
theorem dX8_block_82 : decode cX8_block 82 = .ok (.bipush 15, 2) := by decide +kernel
theorem dX8_block_84 : decode cX8_block 84 = .ok (.isub, 1) := by decide +kernel
theorem dX8_block_85 : decode cX8_block 85 = .ok (.iaload, 1) := by decide +kernel
theorem dX8_block_86 : decode cX8_block 86 = .ok (.istore_n 3, 1) := by decide +kernel
theorem dX8_block_87 : decode cX8_block 87 = .ok (.aload_n 0, 1) := by decide +kernel
theorem dX8_block_88 : decode cX8_block 88 = .ok (.getfield 91, 3) := by decide +kernel
theorem dX8_block_91 : decode cX8_block 91 = .ok (.iload_n 2, 1) := by decide +kernel
theorem dX8_block_92 : decode cX8_block 92 = .ok (.iconst 2, 1) := by decide +kernel
theorem dX8_block_93 : decode cX8_block 93 = .ok (.isub, 1) := by decide +kernel
theorem dX8_block_94 : decode cX8_block 94 = .ok (.iaload, 1) := by decide +kernel
theorem dX8_block_95 : decode cX8_block 95 = .ok (.istore 4, 2) := by decide +kernel
theorem dX8_block_97 : decode cX8_block 97 = .ok (.aload_n 0, 1) := by decide +kernel
theorem dX8_block_98 : decode cX8_block 98 = .ok (.getfield 91, 3) := by decide +kernel
theorem dX8_block_101 : decode cX8_block 101 = .ok (.iload_n 2, 1) := by decide +kernel
theorem dX8_block_102 : decode cX8_block 102 = .ok (.aload_n 0, 1) := by decide +kernel
theorem dX8_block_103 : decode cX8_block 103 = .ok (.getfield 91, 3) := by decide +kernel
theorem dX8_block_106 : decode cX8_block 106 = .ok (.iload_n 2, 1) := by decide +kernel
theorem dX8_block_107 : decode cX8_block 107 = .ok (.bipush 16, 2) := by decide +kernel
theorem dX8_block_109 : decode cX8_block 109 = .ok (.isub, 1) := by decide +kernel
theorem dX8_block_110 : decode cX8_block 110 = .ok (.iaload, 1) := by decide +kernel
theorem dX8_block_111 : decode cX8_block 111 = .ok (.iload_n 3, 1) := by decide +kernel
theorem dX8_block_112 : decode cX8_block 112 = .ok (.bipush 7, 2) := by decide +kernel
theorem dX8_block_114 : decode cX8_block 114 = .ok (.invokestatic 169, 3) := by decide +kernel
theorem dX8_block_117 : decode cX8_block 117 = .ok (.iload_n 3, 1) := by decide +kernel
theorem dX8_block_118 : decode cX8_block 118 = .ok (.bipush 18, 2) := by decide +kernel
theorem dX8_block_120 : decode cX8_block 120 = .ok (.invokestatic 169, 3) := by decide +kernel
theorem dX8_block_123 : decode cX8_block 123 = .ok (.ixor, 1) := by decide +kernel
theorem dX8_block_124 : decode cX8_block 124 = .ok (.iload_n 3, 1) := by decide +kernel
theorem dX8_block_125 : decode cX8_block 125 = .ok (.iconst 3, 1) := by decide +kernel
theorem dX8_block_126 : decode cX8_block 126 = .ok (.iushr, 1) := by decide +kernel
theorem dX8_block_127 : decode cX8_block 127 = .ok (.ixor, 1) := by decide +kernel
theorem dX8_block_128 : decode cX8_block 128 = .ok (.iadd, 1) := by decide +kernel
theorem dX8_block_129 : decode cX8_block 129 = .ok (.aload_n 0, 1) := by decide +kernel
theorem dX8_block_130 : decode cX8_block 130 = .ok (.getfield 91, 3) := by decide +kernel
theorem dX8_block_133 : decode cX8_block 133 = .ok (.iload_n 2, 1) := by decide +kernel
theorem dX8_block_134 : decode cX8_block 134 = .ok (.bipush 7, 2) := by decide +kernel
theorem dX8_block_136 : decode cX8_block 136 = .ok (.isub, 1) := by decide +kernel
theorem dX8_block_137 : decode cX8_block 137 = .ok (.iaload, 1) := by decide +kernel
theorem dX8_block_138 : decode cX8_block 138 = .ok (.iadd, 1) := by decide +kernel
theorem dX8_block_139 : decode cX8_block 139 = .ok (.iload 4, 2) := by decide +kernel
theorem dX8_block_141 : decode cX8_block 141 = .ok (.bipush 17, 2) := by decide +kernel
theorem dX8_block_143 : decode cX8_block 143 = .ok (.invokestatic 169, 3) := by decide +kernel
theorem dX8_block_146 : decode cX8_block 146 = .ok (.iload 4, 2) := by decide +kernel
theorem dX8_block_148 : decode cX8_block 148 = .ok (.bipush 19, 2) := by decide +kernel
theorem dX8_block_150 : decode cX8_block 150 = .ok (.invokestatic 169, 3) := by decide +kernel
theorem dX8_block_153 : decode cX8_block 153 = .ok (.ixor, 1) := by decide +kernel
theorem dX8_block_154 : decode cX8_block 154 = .ok (.iload 4, 2) := by decide +kernel
theorem dX8_block_156 : decode cX8_block 156 = .ok (.bipush 10, 2) := by decide +kernel
theorem dX8_block_158 : decode cX8_block 158 = .ok (.iushr, 1) := by decide +kernel
theorem dX8_block_159 : decode cX8_block 159 = .ok (.ixor, 1) := by decide +kernel
theorem dX8_block_160 : decode cX8_block 160 = .ok (.iadd, 1) := by decide +kernel
theorem dX8_block_161 : decode cX8_block 161 = .ok (.iastore, 1) := by decide +kernel
theorem dX8_block_162 : decode cX8_block 162 = .ok (.iinc 2 1, 3) := by decide +kernel
theorem dX8_block_165 : decode cX8_block 165 = .ok (.goto (-94), 3) := by decide +kernel
theorem dX8_block_168 : decode cX8_block 168 = .ok (.aload_n 0, 1) := by decide +kernel
theorem dX8_block_169 : decode cX8_block 169 = .ok (.getfield 88, 3) := by decide +kernel
theorem dX8_block_172 : decode cX8_block 172 = .ok (.iconst 0, 1) := by decide +kernel
theorem dX8_block_173 : decode cX8_block 173 = .ok (.iaload, 1) := by decide +kernel
theorem dX8_block_174 : decode cX8_block 174 = .ok (.istore_n 2, 1) := by decide +kernel
theorem dX8_block_175 : decode cX8_block 175 = .ok (.aload_n 0, 1) := by decide +kernel
theorem dX8_block_176 : decode cX8_block 176 = .ok (.getfield 88, 3) := by decide +kernel
theorem dX8_block_179 : decode cX8_block 179 = .ok (.iconst 1, 1) := by decide +kernel
theorem dX8_block_180 : decode cX8_block 180 = .ok (.iaload, 1) := by decide +kernel
theorem dX8_block_181 : decode cX8_block 181 = .ok (.istore_n 3, 1) := by decide +kernel
theorem dX8_block_182 : decode cX8_block 182 = .ok (.aload_n 0, 1) := by decide +kernel
theorem dX8_block_183 : decode cX8_block 183 = .ok (.getfield 88, 3) := by decide +kernel
theorem dX8_block_186 : decode cX8_block 186 = .ok (.iconst 2, 1) := by decide +kernel
theorem dX8_block_187 : decode cX8_block 187 = .ok (.iaload, 1) := by decide +kernel
theorem dX8_block_188 : decode cX8_block 188 = .ok (.istore 4, 2) := by decide +kernel
theorem dX8_block_190 : decode cX8_block 190 = .ok (.aload_n 0, 1) := by decide +kernel
theorem dX8_block_191 : decode cX8_block 191 = .ok (.getfield 88, 3) := by decide +kernel
theorem dX8_block_194 : decode cX8_block 194 = .ok (.iconst 3, 1) := by decide +kernel
theorem dX8_block_195 : decode cX8_block 195 = .ok (.iaload, 1) := by decide +kernel
theorem dX8_block_196 : decode cX8_block 196 = .ok (.istore 5, 2) := by decide +kernel
theorem dX8_block_198 : decode cX8_block 198 = .ok (.aload_n 0, 1) := by decide +kernel
theorem dX8_block_199 : decode cX8_block 199 = .ok (.getfield 88, 3) := by decide +kernel
theorem dX8_block_202 : decode cX8_block 202 = .ok (.iconst 4, 1) := by decide +kernel
theorem dX8_block_203 : decode cX8_block 203 = .ok (.iaload, 1) := by decide +kernel
theorem dX8_block_204 : decode cX8_block 204 = .ok (.istore 6, 2) := by decide +kernel
theorem dX8_block_206 : decode cX8_block 206 = .ok (.aload_n 0, 1) := by decide +kernel
theorem dX8_block_207 : decode cX8_block 207 = .ok (.getfield 88, 3) := by decide +kernel
theorem dX8_block_210 : decode cX8_block 210 = .ok (.iconst 5, 1) := by decide +kernel
theorem dX8_block_211 : decode cX8_block 211 = .ok (.iaload, 1) := by decide +kernel
theorem dX8_block_212 : decode cX8_block 212 = .ok (.istore 7, 2) := by decide +kernel
theorem dX8_block_214 : decode cX8_block 214 = .ok (.aload_n 0, 1) := by decide +kernel
theorem dX8_block_215 : decode cX8_block 215 = .ok (.getfield 88, 3) := by decide +kernel
theorem dX8_block_218 : decode cX8_block 218 = .ok (.bipush 6, 2) := by decide +kernel
theorem dX8_block_220 : decode cX8_block 220 = .ok (.iaload, 1) := by decide +kernel
theorem dX8_block_221 : decode cX8_block 221 = .ok (.istore 8, 2) := by decide +kernel
theorem dX8_block_223 : decode cX8_block 223 = .ok (.aload_n 0, 1) := by decide +kernel
theorem dX8_block_224 : decode cX8_block 224 = .ok (.getfield 88, 3) := by decide +kernel
theorem dX8_block_227 : decode cX8_block 227 = .ok (.bipush 7, 2) := by decide +kernel
theorem dX8_block_229 : decode cX8_block 229 = .ok (.iaload, 1) := by decide +kernel
theorem dX8_block_230 : decode cX8_block 230 = .ok (.istore 9, 2) := by decide +kernel
theorem dX8_block_232 : decode cX8_block 232 = .ok (.iconst 0, 1) := by decide +kernel
theorem dX8_block_233 : decode cX8_block 233 = .ok (.istore 10, 2) := by decide +kernel
theorem dX8_block_235 : decode cX8_block 235 = .ok (.iload 10, 2) := by decide +kernel
theorem dX8_block_237 : decode cX8_block 237 = .ok (.bipush 64, 2) := by decide +kernel
theorem dX8_block_239 : decode cX8_block 239 = .ok (.if_icmp .ge 136, 3) := by decide +kernel
theorem dX8_block_242 : decode cX8_block 242 = .ok (.iload 9, 2) := by decide +kernel
theorem dX8_block_244 : decode cX8_block 244 = .ok (.iload 6, 2) := by decide +kernel
theorem dX8_block_246 : decode cX8_block 246 = .ok (.bipush 6, 2) := by decide +kernel
theorem dX8_block_248 : decode cX8_block 248 = .ok (.invokestatic 169, 3) := by decide +kernel
theorem dX8_block_251 : decode cX8_block 251 = .ok (.iload 6, 2) := by decide +kernel
theorem dX8_block_253 : decode cX8_block 253 = .ok (.bipush 11, 2) := by decide +kernel
theorem dX8_block_255 : decode cX8_block 255 = .ok (.invokestatic 169, 3) := by decide +kernel
theorem dX8_block_258 : decode cX8_block 258 = .ok (.ixor, 1) := by decide +kernel
theorem dX8_block_259 : decode cX8_block 259 = .ok (.iload 6, 2) := by decide +kernel
theorem dX8_block_261 : decode cX8_block 261 = .ok (.bipush 25, 2) := by decide +kernel
theorem dX8_block_263 : decode cX8_block 263 = .ok (.invokestatic 169, 3) := by decide +kernel
theorem dX8_block_266 : decode cX8_block 266 = .ok (.ixor, 1) := by decide +kernel
theorem dX8_block_267 : decode cX8_block 267 = .ok (.iadd, 1) := by decide +kernel
theorem dX8_block_268 : decode cX8_block 268 = .ok (.iload 6, 2) := by decide +kernel
theorem dX8_block_270 : decode cX8_block 270 = .ok (.iload 7, 2) := by decide +kernel
theorem dX8_block_272 : decode cX8_block 272 = .ok (.iand, 1) := by decide +kernel
theorem dX8_block_273 : decode cX8_block 273 = .ok (.iload 6, 2) := by decide +kernel
theorem dX8_block_275 : decode cX8_block 275 = .ok (.iconst (-1), 1) := by decide +kernel
theorem dX8_block_276 : decode cX8_block 276 = .ok (.ixor, 1) := by decide +kernel
theorem dX8_block_277 : decode cX8_block 277 = .ok (.iload 8, 2) := by decide +kernel
theorem dX8_block_279 : decode cX8_block 279 = .ok (.iand, 1) := by decide +kernel
theorem dX8_block_280 : decode cX8_block 280 = .ok (.ixor, 1) := by decide +kernel
theorem dX8_block_281 : decode cX8_block 281 = .ok (.iadd, 1) := by decide +kernel
theorem dX8_block_282 : decode cX8_block 282 = .ok (.aload_n 0, 1) := by decide +kernel
theorem dX8_block_283 : decode cX8_block 283 = .ok (.getfield 71, 3) := by decide +kernel
theorem dX8_block_286 : decode cX8_block 286 = .ok (.iload 10, 2) := by decide +kernel
theorem dX8_block_288 : decode cX8_block 288 = .ok (.iaload, 1) := by decide +kernel
theorem dX8_block_289 : decode cX8_block 289 = .ok (.iadd, 1) := by decide +kernel
theorem dX8_block_290 : decode cX8_block 290 = .ok (.aload_n 0, 1) := by decide +kernel
theorem dX8_block_291 : decode cX8_block 291 = .ok (.getfield 91, 3) := by decide +kernel
theorem dX8_block_294 : decode cX8_block 294 = .ok (.iload 10, 2) := by decide +kernel
theorem dX8_block_296 : decode cX8_block 296 = .ok (.iaload, 1) := by decide +kernel
theorem dX8_block_297 : decode cX8_block 297 = .ok (.iadd, 1) := by decide +kernel
theorem dX8_block_298 : decode cX8_block 298 = .ok (.istore 11, 2) := by decide +kernel
theorem dX8_block_300 : decode cX8_block 300 = .ok (.iload_n 2, 1) := by decide +kernel
theorem dX8_block_301 : decode cX8_block 301 = .ok (.iconst 2, 1) := by decide +kernel
theorem dX8_block_302 : decode cX8_block 302 = .ok (.invokestatic 169, 3) := by decide +kernel
theorem dX8_block_305 : decode cX8_block 305 = .ok (.iload_n 2, 1) := by decide +kernel
theorem dX8_block_306 : decode cX8_block 306 = .ok (.bipush 13, 2) := by decide +kernel
theorem dX8_block_308 : decode cX8_block 308 = .ok (.invokestatic 169, 3) := by decide +kernel
theorem dX8_block_311 : decode cX8_block 311 = .ok (.ixor, 1) := by decide +kernel
theorem dX8_block_312 : decode cX8_block 312 = .ok (.iload_n 2, 1) := by decide +kernel
theorem dX8_block_313 : decode cX8_block 313 = .ok (.bipush 22, 2) := by decide +kernel
theorem dX8_block_315 : decode cX8_block 315 = .ok (.invokestatic 169, 3) := by decide +kernel
theorem dX8_block_318 : decode cX8_block 318 = .ok (.ixor, 1) := by decide +kernel
theorem dX8_block_319 : decode cX8_block 319 = .ok (.iload_n 2, 1) := by decide +kernel
theorem dX8_block_320 : decode cX8_block 320 = .ok (.iload_n 3, 1) := by decide +kernel
theorem dX8_block_321 : decode cX8_block 321 = .ok (.iand, 1) := by decide +kernel
theorem dX8_block_322 : decode cX8_block 322 = .ok (.iload_n 2, 1) := by decide +kernel
theorem dX8_block_323 : decode cX8_block 323 = .ok (.iload 4, 2) := by decide +kernel
theorem dX8_block_325 : decode cX8_block 325 = .ok (.iand, 1) := by decide +kernel
theorem dX8_block_326 : decode cX8_block 326 = .ok (.ixor, 1) := by decide +kernel
theorem dX8_block_327 : decode cX8_block 327 = .ok (.iload_n 3, 1) := by decide +kernel
theorem dX8_block_328 : decode cX8_block 328 = .ok (.iload 4, 2) := by decide +kernel
theorem dX8_block_330 : decode cX8_block 330 = .ok (.iand, 1) := by decide +kernel
theorem dX8_block_331 : decode cX8_block 331 = .ok (.ixor, 1) := by decide +kernel
theorem dX8_block_332 : decode cX8_block 332 = .ok (.iadd, 1) := by decide +kernel
theorem dX8_block_333 : decode cX8_block 333 = .ok (.istore 12, 2) := by decide +kernel
theorem dX8_block_335 : decode cX8_block 335 = .ok (.iload 8, 2) := by decide +kernel
theorem dX8_block_337 : decode cX8_block 337 = .ok (.istore 9, 2) := by decide +kernel
theorem dX8_block_339 : decode cX8_block 339 = .ok (.iload 7, 2) := by decide +kernel
theorem dX8_block_341 : decode cX8_block 341 = .ok (.istore 8, 2) := by decide +kernel
theorem dX8_block_343 : decode cX8_block 343 = .ok (.iload 6, 2) := by decide +kernel
theorem dX8_block_345 : decode cX8_block 345 = .ok (.istore 7, 2) := by decide +kernel
theorem dX8_block_347 : decode cX8_block 347 = .ok (.iload 5, 2) := by decide +kernel
theorem dX8_block_349 : decode cX8_block 349 = .ok (.iload 11, 2) := by decide +kernel
theorem dX8_block_351 : decode cX8_block 351 = .ok (.iadd, 1) := by decide +kernel
theorem dX8_block_352 : decode cX8_block 352 = .ok (.istore 6, 2) := by decide +kernel
theorem dX8_block_354 : decode cX8_block 354 = .ok (.iload 4, 2) := by decide +kernel
theorem dX8_block_356 : decode cX8_block 356 = .ok (.istore 5, 2) := by decide +kernel
theorem dX8_block_358 : decode cX8_block 358 = .ok (.iload_n 3, 1) := by decide +kernel
theorem dX8_block_359 : decode cX8_block 359 = .ok (.istore 4, 2) := by decide +kernel
theorem dX8_block_361 : decode cX8_block 361 = .ok (.iload_n 2, 1) := by decide +kernel
theorem dX8_block_362 : decode cX8_block 362 = .ok (.istore_n 3, 1) := by decide +kernel
theorem dX8_block_363 : decode cX8_block 363 = .ok (.iload 11, 2) := by decide +kernel
theorem dX8_block_365 : decode cX8_block 365 = .ok (.iload 12, 2) := by decide +kernel
theorem dX8_block_367 : decode cX8_block 367 = .ok (.iadd, 1) := by decide +kernel
theorem dX8_block_368 : decode cX8_block 368 = .ok (.istore_n 2, 1) := by decide +kernel
theorem dX8_block_369 : decode cX8_block 369 = .ok (.iinc 10 1, 3) := by decide +kernel
theorem dX8_block_372 : decode cX8_block 372 = .ok (.goto (-137), 3) := by decide +kernel
theorem dX8_block_375 : decode cX8_block 375 = .ok (.aload_n 0, 1) := by decide +kernel
theorem dX8_block_376 : decode cX8_block 376 = .ok (.getfield 88, 3) := by decide +kernel
theorem dX8_block_379 : decode cX8_block 379 = .ok (.iconst 0, 1) := by decide +kernel
theorem dX8_block_380 : decode cX8_block 380 = .ok (.aload_n 0, 1) := by decide +kernel
theorem dX8_block_381 : decode cX8_block 381 = .ok (.getfield 88, 3) := by decide +kernel
theorem dX8_block_384 : decode cX8_block 384 = .ok (.iconst 0, 1) := by decide +kernel
theorem dX8_block_385 : decode cX8_block 385 = .ok (.iaload, 1) := by decide +kernel
theorem dX8_block_386 : decode cX8_block 386 = .ok (.iload_n 2, 1) := by decide +kernel
theorem dX8_block_387 : decode cX8_block 387 = .ok (.iadd, 1) := by decide +kernel
theorem dX8_block_388 : decode cX8_block 388 = .ok (.iastore, 1) := by decide +kernel
theorem dX8_block_389 : decode cX8_block 389 = .ok (.aload_n 0, 1) := by decide +kernel
theorem dX8_block_390 : decode cX8_block 390 = .ok (.getfield 88, 3) := by decide +kernel
theorem dX8_block_393 : decode cX8_block 393 = .ok (.iconst 1, 1) := by decide +kernel
theorem dX8_block_394 : decode cX8_block 394 = .ok (.aload_n 0, 1) := by decide +kernel
theorem dX8_block_395 : decode cX8_block 395 = .ok (.getfield 88, 3) := by decide +kernel
theorem dX8_block_398 : decode cX8_block 398 = .ok (.iconst 1, 1) := by decide +kernel
theorem dX8_block_399 : decode cX8_block 399 = .ok (.iaload, 1) := by decide +kernel
theorem dX8_block_400 : decode cX8_block 400 = .ok (.iload_n 3, 1) := by decide +kernel
theorem dX8_block_401 : decode cX8_block 401 = .ok (.iadd, 1) := by decide +kernel
theorem dX8_block_402 : decode cX8_block 402 = .ok (.iastore, 1) := by decide +kernel
theorem dX8_block_403 : decode cX8_block 403 = .ok (.aload_n 0, 1) := by decide +kernel
theorem dX8_block_404 : decode cX8_block 404 = .ok (.getfield 88, 3) := by decide +kernel
theorem dX8_block_407 : decode cX8_block 407 = .ok (.iconst 2, 1) := by decide +kernel
theorem dX8_block_408 : decode cX8_block 408 = .ok (.aload_n 0, 1) := by decide +kernel
theorem dX8_block_409 : decode cX8_block 409 = .ok (.getfield 88, 3) := by decide +kernel
theorem dX8_block_412 : decode cX8_block 412 = .ok (.iconst 2, 1) := by decide +kernel
theorem dX8_block_413 : decode cX8_block 413 = .ok (.iaload, 1) := by decide +kernel
theorem dX8_block_414 : decode cX8_block 414 = .ok (.iload 4, 2) := by decide +kernel
theorem dX8_block_416 : decode cX8_block 416 = .ok (.iadd, 1) := by decide +kernel
theorem dX8_block_417 : decode cX8_block 417 = .ok (.iastore, 1) := by decide +kernel
theorem dX8_block_418 : decode cX8_block 418 = .ok (.aload_n 0, 1) := by decide +kernel
theorem dX8_block_419 : decode cX8_block 419 = .ok (.getfield 88, 3) := by decide +kernel
theorem dX8_block_422 : decode cX8_block 422 = .ok (.iconst 3, 1) := by decide +kernel
theorem dX8_block_423 : decode cX8_block 423 = .ok (.aload_n 0, 1) := by decide +kernel
theorem dX8_block_424 : decode cX8_block 424 = .ok (.getfield 88, 3) := by decide +kernel
theorem dX8_block_427 : decode cX8_block 427 = .ok (.iconst 3, 1) := by decide +kernel
theorem dX8_block_428 : decode cX8_block 428 = .ok (.iaload, 1) := by decide +kernel
theorem dX8_block_429 : decode cX8_block 429 = .ok (.iload 5, 2) := by decide +kernel
theorem dX8_block_431 : decode cX8_block 431 = .ok (.iadd, 1) := by decide +kernel
theorem dX8_block_432 : decode cX8_block 432 = .ok (.iastore, 1) := by decide +kernel
theorem dX8_block_433 : decode cX8_block 433 = .ok (.aload_n 0, 1) := by decide +kernel
theorem dX8_block_434 : decode cX8_block 434 = .ok (.getfield 88, 3) := by decide +kernel
theorem dX8_block_437 : decode cX8_block 437 = .ok (.iconst 4, 1) := by decide +kernel
theorem dX8_block_438 : decode cX8_block 438 = .ok (.aload_n 0, 1) := by decide +kernel
theorem dX8_block_439 : decode cX8_block 439 = .ok (.getfield 88, 3) := by decide +kernel
theorem dX8_block_442 : decode cX8_block 442 = .ok (.iconst 4, 1) := by decide +kernel
theorem dX8_block_443 : decode cX8_block 443 = .ok (.iaload, 1) := by decide +kernel
theorem dX8_block_444 : decode cX8_block 444 = .ok (.iload 6, 2) := by decide +kernel
theorem dX8_block_446 : decode cX8_block 446 = .ok (.iadd, 1) := by decide +kernel
theorem dX8_block_447 : decode cX8_block 447 = .ok (.iastore, 1) := by decide +kernel
theorem dX8_block_448 : decode cX8_block 448 = .ok (.aload_n 0, 1) := by decide +kernel
theorem dX8_block_449 : decode cX8_block 449 = .ok (.getfield 88, 3) := by decide +kernel
theorem dX8_block_452 : decode cX8_block 452 = .ok (.iconst 5, 1) := by decide +kernel
theorem dX8_block_453 : decode cX8_block 453 = .ok (.aload_n 0, 1) := by decide +kernel
theorem dX8_block_454 : decode cX8_block 454 = .ok (.getfield 88, 3) := by decide +kernel
theorem dX8_block_457 : decode cX8_block 457 = .ok (.iconst 5, 1) := by decide +kernel
theorem dX8_block_458 : decode cX8_block 458 = .ok (.iaload, 1) := by decide +kernel
theorem dX8_block_459 : decode cX8_block 459 = .ok (.iload 7, 2) := by decide +kernel
theorem dX8_block_461 : decode cX8_block 461 = .ok (.iadd, 1) := by decide +kernel
theorem dX8_block_462 : decode cX8_block 462 = .ok (.iastore, 1) := by decide +kernel
theorem dX8_block_463 : decode cX8_block 463 = .ok (.aload_n 0, 1) := by decide +kernel
theorem dX8_block_464 : decode cX8_block 464 = .ok (.getfield 88, 3) := by decide +kernel
theorem dX8_block_467 : decode cX8_block 467 = .ok (.bipush 6, 2) := by decide +kernel
theorem dX8_block_469 : decode cX8_block 469 = .ok (.aload_n 0, 1) := by decide +kernel
theorem dX8_block_470 : decode cX8_block 470 = .ok (.getfield 88, 3) := by decide +kernel
theorem dX8_block_473 : decode cX8_block 473 = .ok (.bipush 6, 2) := by decide +kernel
theorem dX8_block_475 : decode cX8_block 475 = .ok (.iaload, 1) := by decide +kernel
theorem dX8_block_476 : decode cX8_block 476 = .ok (.iload 8, 2) := by decide +kernel
theorem dX8_block_478 : decode cX8_block 478 = .ok (.iadd, 1) := by decide +kernel
theorem dX8_block_479 : decode cX8_block 479 = .ok (.iastore, 1) := by decide +kernel
theorem dX8_block_480 : decode cX8_block 480 = .ok (.aload_n 0, 1) := by decide +kernel
theorem dX8_block_481 : decode cX8_block 481 = .ok (.getfield 88, 3) := by decide +kernel
theorem dX8_block_484 : decode cX8_block 484 = .ok (.bipush 7, 2) := by decide +kernel
theorem dX8_block_486 : decode cX8_block 486 = .ok (.aload_n 0, 1) := by decide +kernel
theorem dX8_block_487 : decode cX8_block 487 = .ok (.getfield 88, 3) := by decide +kernel
theorem dX8_block_490 : decode cX8_block 490 = .ok (.bipush 7, 2) := by decide +kernel
theorem dX8_block_492 : decode cX8_block 492 = .ok (.iaload, 1) := by decide +kernel
theorem dX8_block_493 : decode cX8_block 493 = .ok (.iload 9, 2) := by decide +kernel
theorem dX8_block_495 : decode cX8_block 495 = .ok (.iadd, 1) := by decide +kernel
theorem dX8_block_496 : decode cX8_block 496 = .ok (.iastore, 1) := by decide +kernel
theorem dX8_block_497 : decode cX8_block 497 = .ok (.return_, 1) := by decide +kernel
theorem dX8_change_0 : decode cX8_change 0 = .ok (.aload_n 0, 1) := by decide +kernel
theorem dX8_change_1 : decode cX8_change 1 = .ok (.iconst 0, 1) := by decide +kernel
theorem dX8_change_2 : decode cX8_change 2 = .ok (.putfield 166, 3) := by decide +kernel
theorem dX8_change_5 : decode cX8_change 5 = .ok (.aload_n 0, 1) := by decide +kernel
theorem dX8_change_6 : decode cX8_change 6 = .ok (.getfield 128, 3) := by decide +kernel
theorem dX8_change_9 : decode cX8_change 9 = .ok (.aload_n 0, 1) := by decide +kernel
theorem dX8_change_10 : decode cX8_change 10 = .ok (.getfield 118, 3) := by decide +kernel
theorem dX8_change_13 : decode cX8_change 13 = .ok (.iconst 1, 1) := by decide +kernel
theorem dX8_change_14 : decode cX8_change 14 = .ok (.isub, 1) := by decide +kernel
theorem dX8_change_15 : decode cX8_change 15 = .ok (.aload_n 0, 1) := by decide +kernel
theorem dX8_change_16 : decode cX8_change 16 = .ok (.getfield 231, 3) := by decide +kernel
theorem dX8_change_19 : decode cX8_change 19 = .ok (.lastore, 1) := by decide +kernel
theorem dX8_change_20 : decode cX8_change 20 = .ok (.aload_n 0, 1) := by decide +kernel
theorem dX8_change_21 : decode cX8_change 21 = .ok (.getfield 122, 3) := by decide +kernel
theorem dX8_change_24 : decode cX8_change 24 = .ok (.aload_n 0, 1) := by decide +kernel
theorem dX8_change_25 : decode cX8_change 25 = .ok (.getfield 118, 3) := by decide +kernel
theorem dX8_change_28 : decode cX8_change 28 = .ok (.aload_n 0, 1) := by decide +kernel
theorem dX8_change_29 : decode cX8_change 29 = .ok (.getfield 122, 3) := by decide +kernel
theorem dX8_change_32 : decode cX8_change 32 = .ok (.aload_n 0, 1) := by decide +kernel
theorem dX8_change_33 : decode cX8_change 33 = .ok (.getfield 118, 3) := by decide +kernel
theorem dX8_change_36 : decode cX8_change 36 = .ok (.iconst 1, 1) := by decide +kernel
theorem dX8_change_37 : decode cX8_change 37 = .ok (.isub, 1) := by decide +kernel
theorem dX8_change_38 : decode cX8_change 38 = .ok (.iaload, 1) := by decide +kernel
theorem dX8_change_39 : decode cX8_change 39 = .ok (.iconst 1, 1) := by decide +kernel
theorem dX8_change_40 : decode cX8_change 40 = .ok (.iadd, 1) := by decide +kernel
theorem dX8_change_41 : decode cX8_change 41 = .ok (.sipush 256, 3) := by decide +kernel
theorem dX8_change_44 : decode cX8_change 44 = .ok (.irem, 1) := by decide +kernel
theorem dX8_change_45 : decode cX8_change 45 = .ok (.iastore, 1) := by decide +kernel
theorem dX8_change_46 : decode cX8_change 46 = .ok (.iconst 0, 1) := by decide +kernel
theorem dX8_change_47 : decode cX8_change 47 = .ok (.istore 5, 2) := by decide +kernel
theorem dX8_change_49 : decode cX8_change 49 = .ok (.iload 5, 2) := by decide +kernel
theorem dX8_change_51 : decode cX8_change 51 = .ok (.bipush 16, 2) := by decide +kernel
theorem dX8_change_53 : decode cX8_change 53 = .ok (.if_icmp .ge 77, 3) := by decide +kernel
theorem dX8_change_56 : decode cX8_change 56 = .ok (.iload 5, 2) := by decide +kernel
theorem dX8_change_58 : decode cX8_change 58 = .ok (.iconst 4, 1) := by decide +kernel
theorem dX8_change_59 : decode cX8_change 59 = .ok (.if_icmp .ge 7, 3) := by decide +kernel
theorem dX8_change_62 : decode cX8_change 62 = .ok (.iload_n 1, 1) := by decide +kernel
theorem dX8_change_63 : decode cX8_change 63 = .ok (.goto 27, 3) := by decide +kernel
theorem dX8_change_66 : decode cX8_change 66 = .ok (.iload 5, 2) := by decide +kernel
theorem dX8_change_68 : decode cX8_change 68 = .ok (.bipush 8, 2) := by decide +kernel
theorem dX8_change_70 : decode cX8_change 70 = .ok (.if_icmp .ge 7, 3) := by decide +kernel
theorem dX8_change_73 : decode cX8_change 73 = .ok (.iload_n 2, 1) := by decide +kernel
theorem dX8_change_74 : decode cX8_change 74 = .ok (.goto 16, 3) := by decide +kernel
theorem dX8_change_77 : decode cX8_change 77 = .ok (.iload 5, 2) := by decide +kernel
theorem dX8_change_79 : decode cX8_change 79 = .ok (.bipush 12, 2) := by decide +kernel
theorem dX8_change_81 : decode cX8_change 81 = .ok (.if_icmp .ge 7, 3) := by decide +kernel
theorem dX8_change_84 : decode cX8_change 84 = .ok (.iload_n 3, 1) := by decide +kernel
theorem dX8_change_85 : decode cX8_change 85 = .ok (.goto 5, 3) := by decide +kernel
theorem dX8_change_88 : decode cX8_change 88 = .ok (.iload 4, 2) := by decide +kernel
theorem dX8_change_90 : decode cX8_change 90 = .ok (.istore 6, 2) := by decide +kernel
theorem dX8_change_92 : decode cX8_change 92 = .ok (.aload_n 0, 1) := by decide +kernel
theorem dX8_change_93 : decode cX8_change 93 = .ok (.getfield 125, 3) := by decide +kernel
theorem dX8_change_96 : decode cX8_change 96 = .ok (.bipush 16, 2) := by decide +kernel
theorem dX8_change_98 : decode cX8_change 98 = .ok (.aload_n 0, 1) := by decide +kernel
theorem dX8_change_99 : decode cX8_change 99 = .ok (.getfield 118, 3) := by decide +kernel
theorem dX8_change_102 : decode cX8_change 102 = .ok (.imul, 1) := by decide +kernel
theorem dX8_change_103 : decode cX8_change 103 = .ok (.iload 5, 2) := by decide +kernel
theorem dX8_change_105 : decode cX8_change 105 = .ok (.iadd, 1) := by decide +kernel
theorem dX8_change_106 : decode cX8_change 106 = .ok (.iload 6, 2) := by decide +kernel
theorem dX8_change_108 : decode cX8_change 108 = .ok (.bipush 24, 2) := by decide +kernel
theorem dX8_change_110 : decode cX8_change 110 = .ok (.bipush 8, 2) := by decide +kernel
theorem dX8_change_112 : decode cX8_change 112 = .ok (.iload 5, 2) := by decide +kernel
theorem dX8_change_114 : decode cX8_change 114 = .ok (.iconst 4, 1) := by decide +kernel
theorem dX8_change_115 : decode cX8_change 115 = .ok (.irem, 1) := by decide +kernel
theorem dX8_change_116 : decode cX8_change 116 = .ok (.imul, 1) := by decide +kernel
theorem dX8_change_117 : decode cX8_change 117 = .ok (.isub, 1) := by decide +kernel
theorem dX8_change_118 : decode cX8_change 118 = .ok (.ishr, 1) := by decide +kernel
theorem dX8_change_119 : decode cX8_change 119 = .ok (.sipush 255, 3) := by decide +kernel
theorem dX8_change_122 : decode cX8_change 122 = .ok (.iand, 1) := by decide +kernel
theorem dX8_change_123 : decode cX8_change 123 = .ok (.iastore, 1) := by decide +kernel
theorem dX8_change_124 : decode cX8_change 124 = .ok (.iinc 5 1, 3) := by decide +kernel
theorem dX8_change_127 : decode cX8_change 127 = .ok (.goto (-78), 3) := by decide +kernel
theorem dX8_change_130 : decode cX8_change 130 = .ok (.aload_n 0, 1) := by decide +kernel
theorem dX8_change_131 : decode cX8_change 131 = .ok (.dup, 1) := by decide +kernel
theorem dX8_change_132 : decode cX8_change 132 = .ok (.getfield 118, 3) := by decide +kernel
theorem dX8_change_135 : decode cX8_change 135 = .ok (.iconst 1, 1) := by decide +kernel
theorem dX8_change_136 : decode cX8_change 136 = .ok (.iadd, 1) := by decide +kernel
theorem dX8_change_137 : decode cX8_change 137 = .ok (.putfield 118, 3) := by decide +kernel
theorem dX8_change_140 : decode cX8_change 140 = .ok (.aload_n 0, 1) := by decide +kernel
theorem dX8_change_141 : decode cX8_change 141 = .ok (.getfield 118, 3) := by decide +kernel
theorem dX8_change_144 : decode cX8_change 144 = .ok (.iconst 5, 1) := by decide +kernel
theorem dX8_change_145 : decode cX8_change 145 = .ok (.if_icmp .ne 100, 3) := by decide +kernel
theorem dX8_change_148 : decode cX8_change 148 = .ok (.iconst 0, 1) := by decide +kernel
theorem dX8_change_149 : decode cX8_change 149 = .ok (.istore 5, 2) := by decide +kernel
theorem dX8_change_151 : decode cX8_change 151 = .ok (.iload 5, 2) := by decide +kernel
theorem dX8_change_153 : decode cX8_change 153 = .ok (.iconst 4, 1) := by decide +kernel
theorem dX8_change_154 : decode cX8_change 154 = .ok (.if_icmp .ge 86, 3) := by decide +kernel
theorem dX8_change_157 : decode cX8_change 157 = .ok (.aload_n 0, 1) := by decide +kernel
theorem dX8_change_158 : decode cX8_change 158 = .ok (.getfield 122, 3) := by decide +kernel
theorem dX8_change_161 : decode cX8_change 161 = .ok (.iload 5, 2) := by decide +kernel
theorem dX8_change_163 : decode cX8_change 163 = .ok (.aload_n 0, 1) := by decide +kernel
theorem dX8_change_164 : decode cX8_change 164 = .ok (.getfield 122, 3) := by decide +kernel
theorem dX8_change_167 : decode cX8_change 167 = .ok (.iload 5, 2) := by decide +kernel
theorem dX8_change_169 : decode cX8_change 169 = .ok (.iconst 1, 1) := by decide +kernel
theorem dX8_change_170 : decode cX8_change 170 = .ok (.iadd, 1) := by decide +kernel
theorem dX8_change_171 : decode cX8_change 171 = .ok (.iaload, 1) := by decide +kernel
theorem dX8_change_172 : decode cX8_change 172 = .ok (.iastore, 1) := by decide +kernel
theorem dX8_change_173 : decode cX8_change 173 = .ok (.aload_n 0, 1) := by decide +kernel
theorem dX8_change_174 : decode cX8_change 174 = .ok (.getfield 128, 3) := by decide +kernel
theorem dX8_change_177 : decode cX8_change 177 = .ok (.iload 5, 2) := by decide +kernel
theorem dX8_change_179 : decode cX8_change 179 = .ok (.aload_n 0, 1) := by decide +kernel
theorem dX8_change_180 : decode cX8_change 180 = .ok (.getfield 128, 3) := by decide +kernel
theorem dX8_change_183 : decode cX8_change 183 = .ok (.iload 5, 2) := by decide +kernel
theorem dX8_change_185 : decode cX8_change 185 = .ok (.iconst 1, 1) := by decide +kernel
theorem dX8_change_186 : decode cX8_change 186 = .ok (.iadd, 1) := by decide +kernel
theorem dX8_change_187 : decode cX8_change 187 = .ok (.laload, 1) := by decide +kernel
theorem dX8_change_188 : decode cX8_change 188 = .ok (.lastore, 1) := by decide +kernel
theorem dX8_change_189 : decode cX8_change 189 = .ok (.iconst 0, 1) := by decide +kernel
theorem dX8_change_190 : decode cX8_change 190 = .ok (.istore 6, 2) := by decide +kernel
theorem dX8_change_192 : decode cX8_change 192 = .ok (.iload 6, 2) := by decide +kernel
theorem dX8_change_194 : decode cX8_change 194 = .ok (.bipush 16, 2) := by decide +kernel
theorem dX8_change_196 : decode cX8_change 196 = .ok (.if_icmp .ge 38, 3) := by decide +kernel
theorem dX8_change_199 : decode cX8_change 199 = .ok (.aload_n 0, 1) := by decide +kernel
theorem dX8_change_200 : decode cX8_change 200 = .ok (.getfield 125, 3) := by decide +kernel
theorem dX8_change_203 : decode cX8_change 203 = .ok (.bipush 16, 2) := by decide +kernel
theorem dX8_change_205 : decode cX8_change 205 = .ok (.iload 5, 2) := by decide +kernel
theorem dX8_change_207 : decode cX8_change 207 = .ok (.imul, 1) := by decide +kernel
theorem dX8_change_208 : decode cX8_change 208 = .ok (.iload 6, 2) := by decide +kernel
theorem dX8_change_210 : decode cX8_change 210 = .ok (.iadd, 1) := by decide +kernel
theorem dX8_change_211 : decode cX8_change 211 = .ok (.aload_n 0, 1) := by decide +kernel
theorem dX8_change_212 : decode cX8_change 212 = .ok (.getfield 125, 3) := by decide +kernel
theorem dX8_change_215 : decode cX8_change 215 = .ok (.bipush 16, 2) := by decide +kernel
theorem dX8_change_217 : decode cX8_change 217 = .ok (.iload 5, 2) := by decide +kernel
theorem dX8_change_219 : decode cX8_change 219 = .ok (.imul, 1) := by decide +kernel
theorem dX8_change_220 : decode cX8_change 220 = .ok (.bipush 16, 2) := by decide +kernel
theorem dX8_change_222 : decode cX8_change 222 = .ok (.iadd, 1) := by decide +kernel
theorem dX8_change_223 : decode cX8_change 223 = .ok (.iload 6, 2) := by decide +kernel
theorem dX8_change_225 : decode cX8_change 225 = .ok (.iadd, 1) := by decide +kernel
theorem dX8_change_226 : decode cX8_change 226 = .ok (.iaload, 1) := by decide +kernel
theorem dX8_change_227 : decode cX8_change 227 = .ok (.iastore, 1) := by decide +kernel
theorem dX8_change_228 : decode cX8_change 228 = .ok (.iinc 6 1, 3) := by decide +kernel
theorem dX8_change_231 : decode cX8_change 231 = .ok (.goto (-39), 3) := by decide +kernel
theorem dX8_change_234 : decode cX8_change 234 = .ok (.iinc 5 1, 3) := by decide +kernel
theorem dX8_change_237 : decode cX8_change 237 = .ok (.goto (-86), 3) := by decide +kernel
theorem dX8_change_240 : decode cX8_change 240 = .ok (.aload_n 0, 1) := by decide +kernel
theorem dX8_change_241 : decode cX8_change 241 = .ok (.iconst 4, 1) := by decide +kernel
theorem dX8_change_242 : decode cX8_change 242 = .ok (.putfield 118, 3) := by decide +kernel
theorem dX8_change_245 : decode cX8_change 245 = .ok (.aload_n 0, 1) := by decide +kernel
theorem dX8_change_246 : decode cX8_change 246 = .ok (.getfield 122, 3) := by decide +kernel
theorem dX8_change_249 : decode cX8_change 249 = .ok (.aload_n 0, 1) := by decide +kernel
theorem dX8_change_250 : decode cX8_change 250 = .ok (.getfield 118, 3) := by decide +kernel
theorem dX8_change_253 : decode cX8_change 253 = .ok (.iconst 1, 1) := by decide +kernel
theorem dX8_change_254 : decode cX8_change 254 = .ok (.isub, 1) := by decide +kernel
theorem dX8_change_255 : decode cX8_change 255 = .ok (.iaload, 1) := by decide +kernel
theorem dX8_change_256 : decode cX8_change 256 = .ok (.ireturn, 1) := by decide +kernel
theorem dX8_look_0 : decode cX8_look 0 = .ok (.aload_n 0, 1) := by decide +kernel
theorem dX8_look_1 : decode cX8_look 1 = .ok (.invokevirtual 254, 3) := by decide +kernel
theorem dX8_look_4 : decode cX8_look 4 = .ok (.ifCond .ne 6, 3) := by decide +kernel
theorem dX8_look_7 : decode cX8_look 7 = .ok (.bipush (-2), 2) := by decide +kernel
theorem dX8_look_9 : decode cX8_look 9 = .ok (.ireturn, 1) := by decide +kernel
theorem dX8_look_10 : decode cX8_look 10 = .ok (.aload_n 0, 1) := by decide +kernel
theorem dX8_look_11 : decode cX8_look 11 = .ok (.iconst (-1), 1) := by decide +kernel
theorem dX8_look_12 : decode cX8_look 12 = .ok (.putfield 258, 3) := by decide +kernel
theorem dX8_look_15 : decode cX8_look 15 = .ok (.iconst 0, 1) := by decide +kernel
theorem dX8_look_16 : decode cX8_look 16 = .ok (.istore_n 2, 1) := by decide +kernel
theorem dX8_look_17 : decode cX8_look 17 = .ok (.iload_n 2, 1) := by decide +kernel
theorem dX8_look_18 : decode cX8_look 18 = .ok (.aload_n 0, 1) := by decide +kernel
theorem dX8_look_19 : decode cX8_look 19 = .ok (.getfield 118, 3) := by decide +kernel
theorem dX8_look_22 : decode cX8_look 22 = .ok (.if_icmp .ge 44, 3) := by decide +kernel
theorem dX8_look_25 : decode cX8_look 25 = .ok (.aload_n 0, 1) := by decide +kernel
theorem dX8_look_26 : decode cX8_look 26 = .ok (.aload_n 0, 1) := by decide +kernel
theorem dX8_look_27 : decode cX8_look 27 = .ok (.iload_n 2, 1) := by decide +kernel
theorem dX8_look_28 : decode cX8_look 28 = .ok (.invokevirtual 261, 3) := by decide +kernel
theorem dX8_look_31 : decode cX8_look 31 = .ok (.ifCond .eq 22, 3) := by decide +kernel
theorem dX8_look_34 : decode cX8_look 34 = .ok (.aload_n 0, 1) := by decide +kernel
theorem dX8_look_35 : decode cX8_look 35 = .ok (.getfield 122, 3) := by decide +kernel
theorem dX8_look_38 : decode cX8_look 38 = .ok (.iload_n 2, 1) := by decide +kernel
theorem dX8_look_39 : decode cX8_look 39 = .ok (.iaload, 1) := by decide +kernel
theorem dX8_look_40 : decode cX8_look 40 = .ok (.aload_n 0, 1) := by decide +kernel
theorem dX8_look_41 : decode cX8_look 41 = .ok (.getfield 163, 3) := by decide +kernel
theorem dX8_look_44 : decode cX8_look 44 = .ok (.iconst 0, 1) := by decide +kernel
theorem dX8_look_45 : decode cX8_look 45 = .ok (.iaload, 1) := by decide +kernel
theorem dX8_look_46 : decode cX8_look 46 = .ok (.if_icmp .ne 7, 3) := by decide +kernel
theorem dX8_look_49 : decode cX8_look 49 = .ok (.iload_n 2, 1) := by decide +kernel
theorem dX8_look_50 : decode cX8_look 50 = .ok (.goto 7, 3) := by decide +kernel
theorem dX8_look_53 : decode cX8_look 53 = .ok (.aload_n 0, 1) := by decide +kernel
theorem dX8_look_54 : decode cX8_look 54 = .ok (.getfield 258, 3) := by decide +kernel
theorem dX8_look_57 : decode cX8_look 57 = .ok (.putfield 258, 3) := by decide +kernel
theorem dX8_look_60 : decode cX8_look 60 = .ok (.iinc 2 1, 3) := by decide +kernel
theorem dX8_look_63 : decode cX8_look 63 = .ok (.goto (-46), 3) := by decide +kernel
theorem dX8_look_66 : decode cX8_look 66 = .ok (.aload_n 0, 1) := by decide +kernel
theorem dX8_look_67 : decode cX8_look 67 = .ok (.getfield 258, 3) := by decide +kernel
theorem dX8_look_70 : decode cX8_look 70 = .ok (.ifCond .ge 6, 3) := by decide +kernel
theorem dX8_look_73 : decode cX8_look 73 = .ok (.bipush (-3), 2) := by decide +kernel
theorem dX8_look_75 : decode cX8_look 75 = .ok (.ireturn, 1) := by decide +kernel
theorem dX8_look_76 : decode cX8_look 76 = .ok (.aload_n 0, 1) := by decide +kernel
theorem dX8_look_77 : decode cX8_look 77 = .ok (.aload_n 0, 1) := by decide +kernel
theorem dX8_look_78 : decode cX8_look 78 = .ok (.getfield 258, 3) := by decide +kernel
theorem dX8_look_81 : decode cX8_look 81 = .ok (.iconst (-1), 1) := by decide +kernel
theorem dX8_look_82 : decode cX8_look 82 = .ok (.invokevirtual 207, 3) := by decide +kernel
theorem dX8_look_85 : decode cX8_look 85 = .ok (.iconst 0, 1) := by decide +kernel
theorem dX8_look_86 : decode cX8_look 86 = .ok (.istore_n 2, 1) := by decide +kernel
theorem dX8_look_87 : decode cX8_look 87 = .ok (.iload_n 2, 1) := by decide +kernel
theorem dX8_look_88 : decode cX8_look 88 = .ok (.bipush 12, 2) := by decide +kernel
theorem dX8_look_90 : decode cX8_look 90 = .ok (.if_icmp .ge 30, 3) := by decide +kernel
theorem dX8_look_93 : decode cX8_look 93 = .ok (.aload_n 0, 1) := by decide +kernel
theorem dX8_look_94 : decode cX8_look 94 = .ok (.getfield 97, 3) := by decide +kernel
theorem dX8_look_97 : decode cX8_look 97 = .ok (.iload_n 2, 1) := by decide +kernel
theorem dX8_look_98 : decode cX8_look 98 = .ok (.iaload, 1) := by decide +kernel
theorem dX8_look_99 : decode cX8_look 99 = .ok (.aload_n 0, 1) := by decide +kernel
theorem dX8_look_100 : decode cX8_look 100 = .ok (.getfield 163, 3) := by decide +kernel
theorem dX8_look_103 : decode cX8_look 103 = .ok (.bipush 10, 2) := by decide +kernel
theorem dX8_look_105 : decode cX8_look 105 = .ok (.iload_n 2, 1) := by decide +kernel
theorem dX8_look_106 : decode cX8_look 106 = .ok (.iadd, 1) := by decide +kernel
theorem dX8_look_107 : decode cX8_look 107 = .ok (.iaload, 1) := by decide +kernel
theorem dX8_look_108 : decode cX8_look 108 = .ok (.if_icmp .eq 6, 3) := by decide +kernel
theorem dX8_look_111 : decode cX8_look 111 = .ok (.bipush (-4), 2) := by decide +kernel
theorem dX8_look_113 : decode cX8_look 113 = .ok (.ireturn, 1) := by decide +kernel
theorem dX8_look_114 : decode cX8_look 114 = .ok (.iinc 2 1, 3) := by decide +kernel
theorem dX8_look_117 : decode cX8_look 117 = .ok (.goto (-30), 3) := by decide +kernel
theorem dX8_look_120 : decode cX8_look 120 = .ok (.lconst 0, 1) := by decide +kernel
theorem dX8_look_121 : decode cX8_look 121 = .ok (.lstore_n 2, 1) := by decide +kernel
theorem dX8_look_122 : decode cX8_look 122 = .ok (.iconst 0, 1) := by decide +kernel
theorem dX8_look_123 : decode cX8_look 123 = .ok (.istore 4, 2) := by decide +kernel
theorem dX8_look_125 : decode cX8_look 125 = .ok (.iload 4, 2) := by decide +kernel
theorem dX8_look_127 : decode cX8_look 127 = .ok (.bipush 8, 2) := by decide +kernel
theorem dX8_look_129 : decode cX8_look 129 = .ok (.if_icmp .ge 25, 3) := by decide +kernel
theorem dX8_look_132 : decode cX8_look 132 = .ok (.lload_n 2, 1) := by decide +kernel
theorem dX8_look_133 : decode cX8_look 133 = .ok (.bipush 8, 2) := by decide +kernel
theorem dX8_look_135 : decode cX8_look 135 = .ok (.lshl, 1) := by decide +kernel
theorem dX8_look_136 : decode cX8_look 136 = .ok (.aload_n 0, 1) := by decide +kernel
theorem dX8_look_137 : decode cX8_look 137 = .ok (.getfield 163, 3) := by decide +kernel
theorem dX8_look_140 : decode cX8_look 140 = .ok (.iconst 2, 1) := by decide +kernel
theorem dX8_look_141 : decode cX8_look 141 = .ok (.iload 4, 2) := by decide +kernel
theorem dX8_look_143 : decode cX8_look 143 = .ok (.iadd, 1) := by decide +kernel
theorem dX8_look_144 : decode cX8_look 144 = .ok (.iaload, 1) := by decide +kernel
theorem dX8_look_145 : decode cX8_look 145 = .ok (.i2l, 1) := by decide +kernel
theorem dX8_look_146 : decode cX8_look 146 = .ok (.lor, 1) := by decide +kernel
theorem dX8_look_147 : decode cX8_look 147 = .ok (.lstore_n 2, 1) := by decide +kernel
theorem dX8_look_148 : decode cX8_look 148 = .ok (.iinc 4 1, 3) := by decide +kernel
theorem dX8_look_151 : decode cX8_look 151 = .ok (.goto (-26), 3) := by decide +kernel
theorem dX8_look_154 : decode cX8_look 154 = .ok (.iconst (-1), 1) := by decide +kernel
theorem dX8_look_155 : decode cX8_look 155 = .ok (.istore 4, 2) := by decide +kernel
theorem dX8_look_157 : decode cX8_look 157 = .ok (.bipush 7, 2) := by decide +kernel
theorem dX8_look_159 : decode cX8_look 159 = .ok (.istore 5, 2) := by decide +kernel
theorem dX8_look_161 : decode cX8_look 161 = .ok (.iload 5, 2) := by decide +kernel
theorem dX8_look_163 : decode cX8_look 163 = .ok (.ifCond .lt 56, 3) := by decide +kernel
theorem dX8_look_166 : decode cX8_look 166 = .ok (.aload_n 0, 1) := by decide +kernel
theorem dX8_look_167 : decode cX8_look 167 = .ok (.getfield 142, 3) := by decide +kernel
theorem dX8_look_170 : decode cX8_look 170 = .ok (.iload 5, 2) := by decide +kernel
theorem dX8_look_172 : decode cX8_look 172 = .ok (.baload, 1) := by decide +kernel
theorem dX8_look_173 : decode cX8_look 173 = .ok (.ifCond .eq 36, 3) := by decide +kernel
theorem dX8_look_176 : decode cX8_look 176 = .ok (.aload_n 0, 1) := by decide +kernel
theorem dX8_look_177 : decode cX8_look 177 = .ok (.getfield 148, 3) := by decide +kernel
theorem dX8_look_180 : decode cX8_look 180 = .ok (.iload 5, 2) := by decide +kernel
theorem dX8_look_182 : decode cX8_look 182 = .ok (.laload, 1) := by decide +kernel
theorem dX8_look_183 : decode cX8_look 183 = .ok (.lload_n 2, 1) := by decide +kernel
theorem dX8_look_184 : decode cX8_look 184 = .ok (.lcmp, 1) := by decide +kernel
theorem dX8_look_185 : decode cX8_look 185 = .ok (.ifCond .ne 24, 3) := by decide +kernel
theorem dX8_look_188 : decode cX8_look 188 = .ok (.aload_n 0, 1) := by decide +kernel
theorem dX8_look_189 : decode cX8_look 189 = .ok (.getfield 145, 3) := by decide +kernel
theorem dX8_look_192 : decode cX8_look 192 = .ok (.iload 5, 2) := by decide +kernel
theorem dX8_look_194 : decode cX8_look 194 = .ok (.iaload, 1) := by decide +kernel
theorem dX8_look_195 : decode cX8_look 195 = .ok (.aload_n 0, 1) := by decide +kernel
theorem dX8_look_196 : decode cX8_look 196 = .ok (.getfield 163, 3) := by decide +kernel
theorem dX8_look_199 : decode cX8_look 199 = .ok (.iconst 1, 1) := by decide +kernel
theorem dX8_look_200 : decode cX8_look 200 = .ok (.iaload, 1) := by decide +kernel
theorem dX8_look_201 : decode cX8_look 201 = .ok (.if_icmp .ne 8, 3) := by decide +kernel
theorem dX8_look_204 : decode cX8_look 204 = .ok (.iload 5, 2) := by decide +kernel
theorem dX8_look_206 : decode cX8_look 206 = .ok (.goto 5, 3) := by decide +kernel
theorem dX8_look_209 : decode cX8_look 209 = .ok (.iload 4, 2) := by decide +kernel
theorem dX8_look_211 : decode cX8_look 211 = .ok (.istore 4, 2) := by decide +kernel
theorem dX8_look_213 : decode cX8_look 213 = .ok (.iinc 5 (-1), 3) := by decide +kernel
theorem dX8_look_216 : decode cX8_look 216 = .ok (.goto (-55), 3) := by decide +kernel
theorem dX8_look_219 : decode cX8_look 219 = .ok (.iload 4, 2) := by decide +kernel
theorem dX8_look_221 : decode cX8_look 221 = .ok (.ifCond .ge 6, 3) := by decide +kernel
theorem dX8_look_224 : decode cX8_look 224 = .ok (.bipush (-5), 2) := by decide +kernel
theorem dX8_look_226 : decode cX8_look 226 = .ok (.ireturn, 1) := by decide +kernel
theorem dX8_look_227 : decode cX8_look 227 = .ok (.aload_n 0, 1) := by decide +kernel
theorem dX8_look_228 : decode cX8_look 228 = .ok (.iload 4, 2) := by decide +kernel
theorem dX8_look_230 : decode cX8_look 230 = .ok (.invokevirtual 238, 3) := by decide +kernel
theorem dX8_look_233 : decode cX8_look 233 = .ok (.ifCond .ne 12, 3) := by decide +kernel
theorem dX8_look_236 : decode cX8_look 236 = .ok (.aload_n 0, 1) := by decide +kernel
theorem dX8_look_237 : decode cX8_look 237 = .ok (.iload 4, 2) := by decide +kernel
theorem dX8_look_239 : decode cX8_look 239 = .ok (.invokevirtual 241, 3) := by decide +kernel
theorem dX8_look_242 : decode cX8_look 242 = .ok (.ifCond .eq 28, 3) := by decide +kernel
theorem dX8_look_245 : decode cX8_look 245 = .ok (.aload_n 0, 1) := by decide +kernel
theorem dX8_look_246 : decode cX8_look 246 = .ok (.getfield 142, 3) := by decide +kernel
theorem dX8_look_249 : decode cX8_look 249 = .ok (.iload 4, 2) := by decide +kernel
theorem dX8_look_251 : decode cX8_look 251 = .ok (.iconst 0, 1) := by decide +kernel
theorem dX8_look_252 : decode cX8_look 252 = .ok (.bastore, 1) := by decide +kernel
theorem dX8_look_253 : decode cX8_look 253 = .ok (.aload_n 0, 1) := by decide +kernel
theorem dX8_look_254 : decode cX8_look 254 = .ok (.iload 4, 2) := by decide +kernel
theorem dX8_look_256 : decode cX8_look 256 = .ok (.invokevirtual 238, 3) := by decide +kernel
theorem dX8_look_259 : decode cX8_look 259 = .ok (.ifCond .eq 8, 3) := by decide +kernel
theorem dX8_look_262 : decode cX8_look 262 = .ok (.bipush (-6), 2) := by decide +kernel
theorem dX8_look_264 : decode cX8_look 264 = .ok (.goto 5, 3) := by decide +kernel
theorem dX8_look_267 : decode cX8_look 267 = .ok (.bipush (-7), 2) := by decide +kernel
theorem dX8_look_269 : decode cX8_look 269 = .ok (.ireturn, 1) := by decide +kernel
theorem dX8_look_270 : decode cX8_look 270 = .ok (.iload_n 1, 1) := by decide +kernel
theorem dX8_look_271 : decode cX8_look 271 = .ok (.ifCond .eq 86, 3) := by decide +kernel
theorem dX8_look_274 : decode cX8_look 274 = .ok (.aload_n 0, 1) := by decide +kernel
theorem dX8_look_275 : decode cX8_look 275 = .ok (.aload_n 0, 1) := by decide +kernel
theorem dX8_look_276 : decode cX8_look 276 = .ok (.getfield 258, 3) := by decide +kernel
theorem dX8_look_279 : decode cX8_look 279 = .ok (.invokevirtual 218, 3) := by decide +kernel
theorem dX8_look_282 : decode cX8_look 282 = .ok (.aload_n 0, 1) := by decide +kernel
theorem dX8_look_283 : decode cX8_look 283 = .ok (.getfield 157, 3) := by decide +kernel
theorem dX8_look_286 : decode cX8_look 286 = .ok (.iconst 1, 1) := by decide +kernel
theorem dX8_look_287 : decode cX8_look 287 = .ok (.iaload, 1) := by decide +kernel
theorem dX8_look_288 : decode cX8_look 288 = .ok (.bipush 12, 2) := by decide +kernel
theorem dX8_look_290 : decode cX8_look 290 = .ok (.if_icmp .ne 7, 3) := by decide +kernel
theorem dX8_look_293 : decode cX8_look 293 = .ok (.iconst 1, 1) := by decide +kernel
theorem dX8_look_294 : decode cX8_look 294 = .ok (.goto 4, 3) := by decide +kernel
theorem dX8_look_297 : decode cX8_look 297 = .ok (.iconst 0, 1) := by decide +kernel
theorem dX8_look_298 : decode cX8_look 298 = .ok (.istore 5, 2) := by decide +kernel
theorem dX8_look_300 : decode cX8_look 300 = .ok (.iconst 0, 1) := by decide +kernel
theorem dX8_look_301 : decode cX8_look 301 = .ok (.istore 6, 2) := by decide +kernel
theorem dX8_look_303 : decode cX8_look 303 = .ok (.iload 5, 2) := by decide +kernel
theorem dX8_look_305 : decode cX8_look 305 = .ok (.ifCond .eq 44, 3) := by decide +kernel
theorem dX8_look_308 : decode cX8_look 308 = .ok (.iload 6, 2) := by decide +kernel
theorem dX8_look_310 : decode cX8_look 310 = .ok (.bipush 12, 2) := by decide +kernel
theorem dX8_look_312 : decode cX8_look 312 = .ok (.if_icmp .ge 37, 3) := by decide +kernel
theorem dX8_look_315 : decode cX8_look 315 = .ok (.aload_n 0, 1) := by decide +kernel
theorem dX8_look_316 : decode cX8_look 316 = .ok (.getfield 160, 3) := by decide +kernel
theorem dX8_look_319 : decode cX8_look 319 = .ok (.bipush 40, 2) := by decide +kernel
theorem dX8_look_321 : decode cX8_look 321 = .ok (.iload 6, 2) := by decide +kernel
theorem dX8_look_323 : decode cX8_look 323 = .ok (.iadd, 1) := by decide +kernel
theorem dX8_look_324 : decode cX8_look 324 = .ok (.iaload, 1) := by decide +kernel
theorem dX8_look_325 : decode cX8_look 325 = .ok (.aload_n 0, 1) := by decide +kernel
theorem dX8_look_326 : decode cX8_look 326 = .ok (.iload 6, 2) := by decide +kernel
theorem dX8_look_328 : decode cX8_look 328 = .ok (.bipush 9, 2) := by decide +kernel
theorem dX8_look_330 : decode cX8_look 330 = .ok (.invokevirtual 215, 3) := by decide +kernel
theorem dX8_look_333 : decode cX8_look 333 = .ok (.if_icmp .ne 7, 3) := by decide +kernel
theorem dX8_look_336 : decode cX8_look 336 = .ok (.iconst 1, 1) := by decide +kernel
theorem dX8_look_337 : decode cX8_look 337 = .ok (.goto 4, 3) := by decide +kernel
theorem dX8_look_340 : decode cX8_look 340 = .ok (.iconst 0, 1) := by decide +kernel
theorem dX8_look_341 : decode cX8_look 341 = .ok (.istore 5, 2) := by decide +kernel
theorem dX8_look_343 : decode cX8_look 343 = .ok (.iinc 6 1, 3) := by decide +kernel
theorem dX8_look_346 : decode cX8_look 346 = .ok (.goto (-43), 3) := by decide +kernel
theorem dX8_look_349 : decode cX8_look 349 = .ok (.iload 5, 2) := by decide +kernel
theorem dX8_look_351 : decode cX8_look 351 = .ok (.ifCond .ne 6, 3) := by decide +kernel
theorem dX8_look_354 : decode cX8_look 354 = .ok (.bipush (-8), 2) := by decide +kernel
theorem dX8_look_356 : decode cX8_look 356 = .ok (.ireturn, 1) := by decide +kernel
theorem dX8_look_357 : decode cX8_look 357 = .ok (.iload 4, 2) := by decide +kernel
theorem dX8_look_359 : decode cX8_look 359 = .ok (.ireturn, 1) := by decide +kernel
end
section
theorem dX8_init_0 : decode cX8_init 0 = .ok (.aload_n 0, 1) := by decide +kernel
theorem dX8_init_1 : decode cX8_init 1 = .ok (.invokespecial 1, 3) := by decide +kernel
theorem dX8_init_4 : decode cX8_init 4 = .ok (.aload_n 0, 1) := by decide +kernel
theorem dX8_init_5 : decode cX8_init 5 = .ok (.bipush 64, 2) := by decide +kernel
theorem dX8_init_7 : decode cX8_init 7 = .ok (.newarray .int, 2) := by decide +kernel
theorem dX8_init_9 : decode cX8_init 9 = .ok (.dup, 1) := by decide +kernel
theorem dX8_init_10 : decode cX8_init 10 = .ok (.iconst 0, 1) := by decide +kernel
theorem dX8_init_11 : decode cX8_init 11 = .ok (.ldc 7, 2) := by decide +kernel
theorem dX8_init_13 : decode cX8_init 13 = .ok (.iastore, 1) := by decide +kernel
theorem dX8_init_14 : decode cX8_init 14 = .ok (.dup, 1) := by decide +kernel
theorem dX8_init_15 : decode cX8_init 15 = .ok (.iconst 1, 1) := by decide +kernel
theorem dX8_init_16 : decode cX8_init 16 = .ok (.ldc 8, 2) := by decide +kernel
theorem dX8_init_18 : decode cX8_init 18 = .ok (.iastore, 1) := by decide +kernel
theorem dX8_init_19 : decode cX8_init 19 = .ok (.dup, 1) := by decide +kernel
theorem dX8_init_20 : decode cX8_init 20 = .ok (.iconst 2, 1) := by decide +kernel
theorem dX8_init_21 : decode cX8_init 21 = .ok (.ldc 9, 2) := by decide +kernel
theorem dX8_init_23 : decode cX8_init 23 = .ok (.iastore, 1) := by decide +kernel
theorem dX8_init_24 : decode cX8_init 24 = .ok (.dup, 1) := by decide +kernel
theorem dX8_init_25 : decode cX8_init 25 = .ok (.iconst 3, 1) := by decide +kernel
theorem dX8_init_26 : decode cX8_init 26 = .ok (.ldc 10, 2) := by decide +kernel
theorem dX8_init_28 : decode cX8_init 28 = .ok (.iastore, 1) := by decide +kernel
theorem dX8_init_29 : decode cX8_init 29 = .ok (.dup, 1) := by decide +kernel
theorem dX8_init_30 : decode cX8_init 30 = .ok (.iconst 4, 1) := by decide +kernel
theorem dX8_init_31 : decode cX8_init 31 = .ok (.ldc 11, 2) := by decide +kernel
theorem dX8_init_33 : decode cX8_init 33 = .ok (.iastore, 1) := by decide +kernel
theorem dX8_init_34 : decode cX8_init 34 = .ok (.dup, 1) := by decide +kernel
theorem dX8_init_35 : decode cX8_init 35 = .ok (.iconst 5, 1) := by decide +kernel
theorem dX8_init_36 : decode cX8_init 36 = .ok (.ldc 12, 2) := by decide +kernel
theorem dX8_init_38 : decode cX8_init 38 = .ok (.iastore, 1) := by decide +kernel
theorem dX8_init_39 : decode cX8_init 39 = .ok (.dup, 1) := by decide +kernel
theorem dX8_init_40 : decode cX8_init 40 = .ok (.bipush 6, 2) := by decide +kernel
theorem dX8_init_42 : decode cX8_init 42 = .ok (.ldc 13, 2) := by decide +kernel
theorem dX8_init_44 : decode cX8_init 44 = .ok (.iastore, 1) := by decide +kernel
theorem dX8_init_45 : decode cX8_init 45 = .ok (.dup, 1) := by decide +kernel
theorem dX8_init_46 : decode cX8_init 46 = .ok (.bipush 7, 2) := by decide +kernel
theorem dX8_init_48 : decode cX8_init 48 = .ok (.ldc 14, 2) := by decide +kernel
theorem dX8_init_50 : decode cX8_init 50 = .ok (.iastore, 1) := by decide +kernel
theorem dX8_init_51 : decode cX8_init 51 = .ok (.dup, 1) := by decide +kernel
theorem dX8_init_52 : decode cX8_init 52 = .ok (.bipush 8, 2) := by decide +kernel
theorem dX8_init_54 : decode cX8_init 54 = .ok (.ldc 15, 2) := by decide +kernel
theorem dX8_init_56 : decode cX8_init 56 = .ok (.iastore, 1) := by decide +kernel
theorem dX8_init_57 : decode cX8_init 57 = .ok (.dup, 1) := by decide +kernel
theorem dX8_init_58 : decode cX8_init 58 = .ok (.bipush 9, 2) := by decide +kernel
theorem dX8_init_60 : decode cX8_init 60 = .ok (.ldc 16, 2) := by decide +kernel
theorem dX8_init_62 : decode cX8_init 62 = .ok (.iastore, 1) := by decide +kernel
theorem dX8_init_63 : decode cX8_init 63 = .ok (.dup, 1) := by decide +kernel
theorem dX8_init_64 : decode cX8_init 64 = .ok (.bipush 10, 2) := by decide +kernel
theorem dX8_init_66 : decode cX8_init 66 = .ok (.ldc 17, 2) := by decide +kernel
theorem dX8_init_68 : decode cX8_init 68 = .ok (.iastore, 1) := by decide +kernel
theorem dX8_init_69 : decode cX8_init 69 = .ok (.dup, 1) := by decide +kernel
theorem dX8_init_70 : decode cX8_init 70 = .ok (.bipush 11, 2) := by decide +kernel
theorem dX8_init_72 : decode cX8_init 72 = .ok (.ldc 18, 2) := by decide +kernel
theorem dX8_init_74 : decode cX8_init 74 = .ok (.iastore, 1) := by decide +kernel
theorem dX8_init_75 : decode cX8_init 75 = .ok (.dup, 1) := by decide +kernel
theorem dX8_init_76 : decode cX8_init 76 = .ok (.bipush 12, 2) := by decide +kernel
theorem dX8_init_78 : decode cX8_init 78 = .ok (.ldc 19, 2) := by decide +kernel
theorem dX8_init_80 : decode cX8_init 80 = .ok (.iastore, 1) := by decide +kernel
theorem dX8_init_81 : decode cX8_init 81 = .ok (.dup, 1) := by decide +kernel
theorem dX8_init_82 : decode cX8_init 82 = .ok (.bipush 13, 2) := by decide +kernel
theorem dX8_init_84 : decode cX8_init 84 = .ok (.ldc 20, 2) := by decide +kernel
theorem dX8_init_86 : decode cX8_init 86 = .ok (.iastore, 1) := by decide +kernel
theorem dX8_init_87 : decode cX8_init 87 = .ok (.dup, 1) := by decide +kernel
theorem dX8_init_88 : decode cX8_init 88 = .ok (.bipush 14, 2) := by decide +kernel
theorem dX8_init_90 : decode cX8_init 90 = .ok (.ldc 21, 2) := by decide +kernel
theorem dX8_init_92 : decode cX8_init 92 = .ok (.iastore, 1) := by decide +kernel
theorem dX8_init_93 : decode cX8_init 93 = .ok (.dup, 1) := by decide +kernel
theorem dX8_init_94 : decode cX8_init 94 = .ok (.bipush 15, 2) := by decide +kernel
theorem dX8_init_96 : decode cX8_init 96 = .ok (.ldc 22, 2) := by decide +kernel
theorem dX8_init_98 : decode cX8_init 98 = .ok (.iastore, 1) := by decide +kernel
theorem dX8_init_99 : decode cX8_init 99 = .ok (.dup, 1) := by decide +kernel
theorem dX8_init_100 : decode cX8_init 100 = .ok (.bipush 16, 2) := by decide +kernel
theorem dX8_init_102 : decode cX8_init 102 = .ok (.ldc 23, 2) := by decide +kernel
theorem dX8_init_104 : decode cX8_init 104 = .ok (.iastore, 1) := by decide +kernel
theorem dX8_init_105 : decode cX8_init 105 = .ok (.dup, 1) := by decide +kernel
theorem dX8_init_106 : decode cX8_init 106 = .ok (.bipush 17, 2) := by decide +kernel
theorem dX8_init_108 : decode cX8_init 108 = .ok (.ldc 24, 2) := by decide +kernel
theorem dX8_init_110 : decode cX8_init 110 = .ok (.iastore, 1) := by decide +kernel
theorem dX8_init_111 : decode cX8_init 111 = .ok (.dup, 1) := by decide +kernel
theorem dX8_init_112 : decode cX8_init 112 = .ok (.bipush 18, 2) := by decide +kernel
theorem dX8_init_114 : decode cX8_init 114 = .ok (.ldc 25, 2) := by decide +kernel
theorem dX8_init_116 : decode cX8_init 116 = .ok (.iastore, 1) := by decide +kernel
theorem dX8_init_117 : decode cX8_init 117 = .ok (.dup, 1) := by decide +kernel
theorem dX8_init_118 : decode cX8_init 118 = .ok (.bipush 19, 2) := by decide +kernel
theorem dX8_init_120 : decode cX8_init 120 = .ok (.ldc 26, 2) := by decide +kernel
theorem dX8_init_122 : decode cX8_init 122 = .ok (.iastore, 1) := by decide +kernel
theorem dX8_init_123 : decode cX8_init 123 = .ok (.dup, 1) := by decide +kernel
theorem dX8_init_124 : decode cX8_init 124 = .ok (.bipush 20, 2) := by decide +kernel
theorem dX8_init_126 : decode cX8_init 126 = .ok (.ldc 27, 2) := by decide +kernel
theorem dX8_init_128 : decode cX8_init 128 = .ok (.iastore, 1) := by decide +kernel
theorem dX8_init_129 : decode cX8_init 129 = .ok (.dup, 1) := by decide +kernel
theorem dX8_init_130 : decode cX8_init 130 = .ok (.bipush 21, 2) := by decide +kernel
theorem dX8_init_132 : decode cX8_init 132 = .ok (.ldc 28, 2) := by decide +kernel
theorem dX8_init_134 : decode cX8_init 134 = .ok (.iastore, 1) := by decide +kernel
theorem dX8_init_135 : decode cX8_init 135 = .ok (.dup, 1) := by decide +kernel
theorem dX8_init_136 : decode cX8_init 136 = .ok (.bipush 22, 2) := by decide +kernel
theorem dX8_init_138 : decode cX8_init 138 = .ok (.ldc 29, 2) := by decide +kernel
theorem dX8_init_140 : decode cX8_init 140 = .ok (.iastore, 1) := by decide +kernel
theorem dX8_init_141 : decode cX8_init 141 = .ok (.dup, 1) := by decide +kernel
theorem dX8_init_142 : decode cX8_init 142 = .ok (.bipush 23, 2) := by decide +kernel
theorem dX8_init_144 : decode cX8_init 144 = .ok (.ldc 30, 2) := by decide +kernel
theorem dX8_init_146 : decode cX8_init 146 = .ok (.iastore, 1) := by decide +kernel
theorem dX8_init_147 : decode cX8_init 147 = .ok (.dup, 1) := by decide +kernel
theorem dX8_init_148 : decode cX8_init 148 = .ok (.bipush 24, 2) := by decide +kernel
theorem dX8_init_150 : decode cX8_init 150 = .ok (.ldc 31, 2) := by decide +kernel
theorem dX8_init_152 : decode cX8_init 152 = .ok (.iastore, 1) := by decide +kernel
theorem dX8_init_153 : decode cX8_init 153 = .ok (.dup, 1) := by decide +kernel
theorem dX8_init_154 : decode cX8_init 154 = .ok (.bipush 25, 2) := by decide +kernel
theorem dX8_init_156 : decode cX8_init 156 = .ok (.ldc 32, 2) := by decide +kernel
theorem dX8_init_158 : decode cX8_init 158 = .ok (.iastore, 1) := by decide +kernel
theorem dX8_init_159 : decode cX8_init 159 = .ok (.dup, 1) := by decide +kernel
theorem dX8_init_160 : decode cX8_init 160 = .ok (.bipush 26, 2) := by decide +kernel
theorem dX8_init_162 : decode cX8_init 162 = .ok (.ldc 33, 2) := by decide +kernel
theorem dX8_init_164 : decode cX8_init 164 = .ok (.iastore, 1) := by decide +kernel
theorem dX8_init_165 : decode cX8_init 165 = .ok (.dup, 1) := by decide +kernel
theorem dX8_init_166 : decode cX8_init 166 = .ok (.bipush 27, 2) := by decide +kernel
theorem dX8_init_168 : decode cX8_init 168 = .ok (.ldc 34, 2) := by decide +kernel
theorem dX8_init_170 : decode cX8_init 170 = .ok (.iastore, 1) := by decide +kernel
theorem dX8_init_171 : decode cX8_init 171 = .ok (.dup, 1) := by decide +kernel
theorem dX8_init_172 : decode cX8_init 172 = .ok (.bipush 28, 2) := by decide +kernel
theorem dX8_init_174 : decode cX8_init 174 = .ok (.ldc 35, 2) := by decide +kernel
theorem dX8_init_176 : decode cX8_init 176 = .ok (.iastore, 1) := by decide +kernel
theorem dX8_init_177 : decode cX8_init 177 = .ok (.dup, 1) := by decide +kernel
theorem dX8_init_178 : decode cX8_init 178 = .ok (.bipush 29, 2) := by decide +kernel
theorem dX8_init_180 : decode cX8_init 180 = .ok (.ldc 36, 2) := by decide +kernel
theorem dX8_init_182 : decode cX8_init 182 = .ok (.iastore, 1) := by decide +kernel
theorem dX8_init_183 : decode cX8_init 183 = .ok (.dup, 1) := by decide +kernel
theorem dX8_init_184 : decode cX8_init 184 = .ok (.bipush 30, 2) := by decide +kernel
theorem dX8_init_186 : decode cX8_init 186 = .ok (.ldc 37, 2) := by decide +kernel
theorem dX8_init_188 : decode cX8_init 188 = .ok (.iastore, 1) := by decide +kernel
theorem dX8_init_189 : decode cX8_init 189 = .ok (.dup, 1) := by decide +kernel
theorem dX8_init_190 : decode cX8_init 190 = .ok (.bipush 31, 2) := by decide +kernel
theorem dX8_init_192 : decode cX8_init 192 = .ok (.ldc 38, 2) := by decide +kernel
theorem dX8_init_194 : decode cX8_init 194 = .ok (.iastore, 1) := by decide +kernel
theorem dX8_init_195 : decode cX8_init 195 = .ok (.dup, 1) := by decide +kernel
theorem dX8_init_196 : decode cX8_init 196 = .ok (.bipush 32, 2) := by decide +kernel
theorem dX8_init_198 : decode cX8_init 198 = .ok (.ldc 39, 2) := by decide +kernel
theorem dX8_init_200 : decode cX8_init 200 = .ok (.iastore, 1) := by decide +kernel
theorem dX8_init_201 : decode cX8_init 201 = .ok (.dup, 1) := by decide +kernel
theorem dX8_init_202 : decode cX8_init 202 = .ok (.bipush 33, 2) := by decide +kernel
theorem dX8_init_204 : decode cX8_init 204 = .ok (.ldc 40, 2) := by decide +kernel
theorem dX8_init_206 : decode cX8_init 206 = .ok (.iastore, 1) := by decide +kernel
theorem dX8_init_207 : decode cX8_init 207 = .ok (.dup, 1) := by decide +kernel
theorem dX8_init_208 : decode cX8_init 208 = .ok (.bipush 34, 2) := by decide +kernel
theorem dX8_init_210 : decode cX8_init 210 = .ok (.ldc 41, 2) := by decide +kernel
theorem dX8_init_212 : decode cX8_init 212 = .ok (.iastore, 1) := by decide +kernel
theorem dX8_init_213 : decode cX8_init 213 = .ok (.dup, 1) := by decide +kernel
theorem dX8_init_214 : decode cX8_init 214 = .ok (.bipush 35, 2) := by decide +kernel
theorem dX8_init_216 : decode cX8_init 216 = .ok (.ldc 42, 2) := by decide +kernel
theorem dX8_init_218 : decode cX8_init 218 = .ok (.iastore, 1) := by decide +kernel
theorem dX8_init_219 : decode cX8_init 219 = .ok (.dup, 1) := by decide +kernel
theorem dX8_init_220 : decode cX8_init 220 = .ok (.bipush 36, 2) := by decide +kernel
theorem dX8_init_222 : decode cX8_init 222 = .ok (.ldc 43, 2) := by decide +kernel
theorem dX8_init_224 : decode cX8_init 224 = .ok (.iastore, 1) := by decide +kernel
theorem dX8_init_225 : decode cX8_init 225 = .ok (.dup, 1) := by decide +kernel
theorem dX8_init_226 : decode cX8_init 226 = .ok (.bipush 37, 2) := by decide +kernel
theorem dX8_init_228 : decode cX8_init 228 = .ok (.ldc 44, 2) := by decide +kernel
theorem dX8_init_230 : decode cX8_init 230 = .ok (.iastore, 1) := by decide +kernel
theorem dX8_init_231 : decode cX8_init 231 = .ok (.dup, 1) := by decide +kernel
theorem dX8_init_232 : decode cX8_init 232 = .ok (.bipush 38, 2) := by decide +kernel
theorem dX8_init_234 : decode cX8_init 234 = .ok (.ldc 45, 2) := by decide +kernel
theorem dX8_init_236 : decode cX8_init 236 = .ok (.iastore, 1) := by decide +kernel
theorem dX8_init_237 : decode cX8_init 237 = .ok (.dup, 1) := by decide +kernel
theorem dX8_init_238 : decode cX8_init 238 = .ok (.bipush 39, 2) := by decide +kernel
theorem dX8_init_240 : decode cX8_init 240 = .ok (.ldc 46, 2) := by decide +kernel
theorem dX8_init_242 : decode cX8_init 242 = .ok (.iastore, 1) := by decide +kernel
theorem dX8_init_243 : decode cX8_init 243 = .ok (.dup, 1) := by decide +kernel
theorem dX8_init_244 : decode cX8_init 244 = .ok (.bipush 40, 2) := by decide +kernel
theorem dX8_init_246 : decode cX8_init 246 = .ok (.ldc 47, 2) := by decide +kernel
theorem dX8_init_248 : decode cX8_init 248 = .ok (.iastore, 1) := by decide +kernel
theorem dX8_init_249 : decode cX8_init 249 = .ok (.dup, 1) := by decide +kernel
theorem dX8_init_250 : decode cX8_init 250 = .ok (.bipush 41, 2) := by decide +kernel
theorem dX8_init_252 : decode cX8_init 252 = .ok (.ldc 48, 2) := by decide +kernel
theorem dX8_init_254 : decode cX8_init 254 = .ok (.iastore, 1) := by decide +kernel
theorem dX8_init_255 : decode cX8_init 255 = .ok (.dup, 1) := by decide +kernel
theorem dX8_init_256 : decode cX8_init 256 = .ok (.bipush 42, 2) := by decide +kernel
theorem dX8_init_258 : decode cX8_init 258 = .ok (.ldc 49, 2) := by decide +kernel
theorem dX8_init_260 : decode cX8_init 260 = .ok (.iastore, 1) := by decide +kernel
theorem dX8_init_261 : decode cX8_init 261 = .ok (.dup, 1) := by decide +kernel
theorem dX8_init_262 : decode cX8_init 262 = .ok (.bipush 43, 2) := by decide +kernel
theorem dX8_init_264 : decode cX8_init 264 = .ok (.ldc 50, 2) := by decide +kernel
theorem dX8_init_266 : decode cX8_init 266 = .ok (.iastore, 1) := by decide +kernel
theorem dX8_init_267 : decode cX8_init 267 = .ok (.dup, 1) := by decide +kernel
theorem dX8_init_268 : decode cX8_init 268 = .ok (.bipush 44, 2) := by decide +kernel
theorem dX8_init_270 : decode cX8_init 270 = .ok (.ldc 51, 2) := by decide +kernel
theorem dX8_init_272 : decode cX8_init 272 = .ok (.iastore, 1) := by decide +kernel
theorem dX8_init_273 : decode cX8_init 273 = .ok (.dup, 1) := by decide +kernel
theorem dX8_init_274 : decode cX8_init 274 = .ok (.bipush 45, 2) := by decide +kernel
theorem dX8_init_276 : decode cX8_init 276 = .ok (.ldc 52, 2) := by decide +kernel
theorem dX8_init_278 : decode cX8_init 278 = .ok (.iastore, 1) := by decide +kernel
theorem dX8_init_279 : decode cX8_init 279 = .ok (.dup, 1) := by decide +kernel
theorem dX8_init_280 : decode cX8_init 280 = .ok (.bipush 46, 2) := by decide +kernel
theorem dX8_init_282 : decode cX8_init 282 = .ok (.ldc 53, 2) := by decide +kernel
theorem dX8_init_284 : decode cX8_init 284 = .ok (.iastore, 1) := by decide +kernel
theorem dX8_init_285 : decode cX8_init 285 = .ok (.dup, 1) := by decide +kernel
theorem dX8_init_286 : decode cX8_init 286 = .ok (.bipush 47, 2) := by decide +kernel
theorem dX8_init_288 : decode cX8_init 288 = .ok (.ldc 54, 2) := by decide +kernel
theorem dX8_init_290 : decode cX8_init 290 = .ok (.iastore, 1) := by decide +kernel
theorem dX8_init_291 : decode cX8_init 291 = .ok (.dup, 1) := by decide +kernel
theorem dX8_init_292 : decode cX8_init 292 = .ok (.bipush 48, 2) := by decide +kernel
theorem dX8_init_294 : decode cX8_init 294 = .ok (.ldc 55, 2) := by decide +kernel
theorem dX8_init_296 : decode cX8_init 296 = .ok (.iastore, 1) := by decide +kernel
theorem dX8_init_297 : decode cX8_init 297 = .ok (.dup, 1) := by decide +kernel
theorem dX8_init_298 : decode cX8_init 298 = .ok (.bipush 49, 2) := by decide +kernel
theorem dX8_init_300 : decode cX8_init 300 = .ok (.ldc 56, 2) := by decide +kernel
theorem dX8_init_302 : decode cX8_init 302 = .ok (.iastore, 1) := by decide +kernel
theorem dX8_init_303 : decode cX8_init 303 = .ok (.dup, 1) := by decide +kernel
theorem dX8_init_304 : decode cX8_init 304 = .ok (.bipush 50, 2) := by decide +kernel
theorem dX8_init_306 : decode cX8_init 306 = .ok (.ldc 57, 2) := by decide +kernel
theorem dX8_init_308 : decode cX8_init 308 = .ok (.iastore, 1) := by decide +kernel
theorem dX8_init_309 : decode cX8_init 309 = .ok (.dup, 1) := by decide +kernel
theorem dX8_init_310 : decode cX8_init 310 = .ok (.bipush 51, 2) := by decide +kernel
theorem dX8_init_312 : decode cX8_init 312 = .ok (.ldc 58, 2) := by decide +kernel
theorem dX8_init_314 : decode cX8_init 314 = .ok (.iastore, 1) := by decide +kernel
theorem dX8_init_315 : decode cX8_init 315 = .ok (.dup, 1) := by decide +kernel
theorem dX8_init_316 : decode cX8_init 316 = .ok (.bipush 52, 2) := by decide +kernel
theorem dX8_init_318 : decode cX8_init 318 = .ok (.ldc 59, 2) := by decide +kernel
theorem dX8_init_320 : decode cX8_init 320 = .ok (.iastore, 1) := by decide +kernel
theorem dX8_init_321 : decode cX8_init 321 = .ok (.dup, 1) := by decide +kernel
theorem dX8_init_322 : decode cX8_init 322 = .ok (.bipush 53, 2) := by decide +kernel
theorem dX8_init_324 : decode cX8_init 324 = .ok (.ldc 60, 2) := by decide +kernel
theorem dX8_init_326 : decode cX8_init 326 = .ok (.iastore, 1) := by decide +kernel
theorem dX8_init_327 : decode cX8_init 327 = .ok (.dup, 1) := by decide +kernel
theorem dX8_init_328 : decode cX8_init 328 = .ok (.bipush 54, 2) := by decide +kernel
theorem dX8_init_330 : decode cX8_init 330 = .ok (.ldc 61, 2) := by decide +kernel
theorem dX8_init_332 : decode cX8_init 332 = .ok (.iastore, 1) := by decide +kernel
theorem dX8_init_333 : decode cX8_init 333 = .ok (.dup, 1) := by decide +kernel
theorem dX8_init_334 : decode cX8_init 334 = .ok (.bipush 55, 2) := by decide +kernel
theorem dX8_init_336 : decode cX8_init 336 = .ok (.ldc 62, 2) := by decide +kernel
theorem dX8_init_338 : decode cX8_init 338 = .ok (.iastore, 1) := by decide +kernel
theorem dX8_init_339 : decode cX8_init 339 = .ok (.dup, 1) := by decide +kernel
theorem dX8_init_340 : decode cX8_init 340 = .ok (.bipush 56, 2) := by decide +kernel
theorem dX8_init_342 : decode cX8_init 342 = .ok (.ldc 63, 2) := by decide +kernel
theorem dX8_init_344 : decode cX8_init 344 = .ok (.iastore, 1) := by decide +kernel
theorem dX8_init_345 : decode cX8_init 345 = .ok (.dup, 1) := by decide +kernel
theorem dX8_init_346 : decode cX8_init 346 = .ok (.bipush 57, 2) := by decide +kernel
theorem dX8_init_348 : decode cX8_init 348 = .ok (.ldc 64, 2) := by decide +kernel
theorem dX8_init_350 : decode cX8_init 350 = .ok (.iastore, 1) := by decide +kernel
theorem dX8_init_351 : decode cX8_init 351 = .ok (.dup, 1) := by decide +kernel
theorem dX8_init_352 : decode cX8_init 352 = .ok (.bipush 58, 2) := by decide +kernel
theorem dX8_init_354 : decode cX8_init 354 = .ok (.ldc 65, 2) := by decide +kernel
theorem dX8_init_356 : decode cX8_init 356 = .ok (.iastore, 1) := by decide +kernel
theorem dX8_init_357 : decode cX8_init 357 = .ok (.dup, 1) := by decide +kernel
theorem dX8_init_358 : decode cX8_init 358 = .ok (.bipush 59, 2) := by decide +kernel
theorem dX8_init_360 : decode cX8_init 360 = .ok (.ldc 66, 2) := by decide +kernel
theorem dX8_init_362 : decode cX8_init 362 = .ok (.iastore, 1) := by decide +kernel
theorem dX8_init_363 : decode cX8_init 363 = .ok (.dup, 1) := by decide +kernel
theorem dX8_init_364 : decode cX8_init 364 = .ok (.bipush 60, 2) := by decide +kernel
theorem dX8_init_366 : decode cX8_init 366 = .ok (.ldc 67, 2) := by decide +kernel
theorem dX8_init_368 : decode cX8_init 368 = .ok (.iastore, 1) := by decide +kernel
theorem dX8_init_369 : decode cX8_init 369 = .ok (.dup, 1) := by decide +kernel
theorem dX8_init_370 : decode cX8_init 370 = .ok (.bipush 61, 2) := by decide +kernel
theorem dX8_init_372 : decode cX8_init 372 = .ok (.ldc 68, 2) := by decide +kernel
theorem dX8_init_374 : decode cX8_init 374 = .ok (.iastore, 1) := by decide +kernel
theorem dX8_init_375 : decode cX8_init 375 = .ok (.dup, 1) := by decide +kernel
theorem dX8_init_376 : decode cX8_init 376 = .ok (.bipush 62, 2) := by decide +kernel
theorem dX8_init_378 : decode cX8_init 378 = .ok (.ldc 69, 2) := by decide +kernel
theorem dX8_init_380 : decode cX8_init 380 = .ok (.iastore, 1) := by decide +kernel
theorem dX8_init_381 : decode cX8_init 381 = .ok (.dup, 1) := by decide +kernel
theorem dX8_init_382 : decode cX8_init 382 = .ok (.bipush 63, 2) := by decide +kernel
theorem dX8_init_384 : decode cX8_init 384 = .ok (.ldc 70, 2) := by decide +kernel
theorem dX8_init_386 : decode cX8_init 386 = .ok (.iastore, 1) := by decide +kernel
theorem dX8_init_387 : decode cX8_init 387 = .ok (.putfield 71, 3) := by decide +kernel
theorem dX8_init_390 : decode cX8_init 390 = .ok (.aload_n 0, 1) := by decide +kernel
theorem dX8_init_391 : decode cX8_init 391 = .ok (.bipush 8, 2) := by decide +kernel
theorem dX8_init_393 : decode cX8_init 393 = .ok (.newarray .int, 2) := by decide +kernel
theorem dX8_init_395 : decode cX8_init 395 = .ok (.dup, 1) := by decide +kernel
theorem dX8_init_396 : decode cX8_init 396 = .ok (.iconst 0, 1) := by decide +kernel
theorem dX8_init_397 : decode cX8_init 397 = .ok (.ldc 77, 2) := by decide +kernel
theorem dX8_init_399 : decode cX8_init 399 = .ok (.iastore, 1) := by decide +kernel
theorem dX8_init_400 : decode cX8_init 400 = .ok (.dup, 1) := by decide +kernel
theorem dX8_init_401 : decode cX8_init 401 = .ok (.iconst 1, 1) := by decide +kernel
theorem dX8_init_402 : decode cX8_init 402 = .ok (.ldc 78, 2) := by decide +kernel
theorem dX8_init_404 : decode cX8_init 404 = .ok (.iastore, 1) := by decide +kernel
theorem dX8_init_405 : decode cX8_init 405 = .ok (.dup, 1) := by decide +kernel
theorem dX8_init_406 : decode cX8_init 406 = .ok (.iconst 2, 1) := by decide +kernel
theorem dX8_init_407 : decode cX8_init 407 = .ok (.ldc 79, 2) := by decide +kernel
theorem dX8_init_409 : decode cX8_init 409 = .ok (.iastore, 1) := by decide +kernel
theorem dX8_init_410 : decode cX8_init 410 = .ok (.dup, 1) := by decide +kernel
theorem dX8_init_411 : decode cX8_init 411 = .ok (.iconst 3, 1) := by decide +kernel
theorem dX8_init_412 : decode cX8_init 412 = .ok (.ldc 80, 2) := by decide +kernel
theorem dX8_init_414 : decode cX8_init 414 = .ok (.iastore, 1) := by decide +kernel
theorem dX8_init_415 : decode cX8_init 415 = .ok (.dup, 1) := by decide +kernel
theorem dX8_init_416 : decode cX8_init 416 = .ok (.iconst 4, 1) := by decide +kernel
theorem dX8_init_417 : decode cX8_init 417 = .ok (.ldc 81, 2) := by decide +kernel
theorem dX8_init_419 : decode cX8_init 419 = .ok (.iastore, 1) := by decide +kernel
theorem dX8_init_420 : decode cX8_init 420 = .ok (.dup, 1) := by decide +kernel
theorem dX8_init_421 : decode cX8_init 421 = .ok (.iconst 5, 1) := by decide +kernel
theorem dX8_init_422 : decode cX8_init 422 = .ok (.ldc 82, 2) := by decide +kernel
theorem dX8_init_424 : decode cX8_init 424 = .ok (.iastore, 1) := by decide +kernel
theorem dX8_init_425 : decode cX8_init 425 = .ok (.dup, 1) := by decide +kernel
theorem dX8_init_426 : decode cX8_init 426 = .ok (.bipush 6, 2) := by decide +kernel
theorem dX8_init_428 : decode cX8_init 428 = .ok (.ldc 83, 2) := by decide +kernel
theorem dX8_init_430 : decode cX8_init 430 = .ok (.iastore, 1) := by decide +kernel
theorem dX8_init_431 : decode cX8_init 431 = .ok (.dup, 1) := by decide +kernel
theorem dX8_init_432 : decode cX8_init 432 = .ok (.bipush 7, 2) := by decide +kernel
theorem dX8_init_434 : decode cX8_init 434 = .ok (.ldc 84, 2) := by decide +kernel
theorem dX8_init_436 : decode cX8_init 436 = .ok (.iastore, 1) := by decide +kernel
theorem dX8_init_437 : decode cX8_init 437 = .ok (.putfield 85, 3) := by decide +kernel
theorem dX8_init_440 : decode cX8_init 440 = .ok (.aload_n 0, 1) := by decide +kernel
theorem dX8_init_441 : decode cX8_init 441 = .ok (.bipush 8, 2) := by decide +kernel
theorem dX8_init_443 : decode cX8_init 443 = .ok (.newarray .int, 2) := by decide +kernel
theorem dX8_init_445 : decode cX8_init 445 = .ok (.putfield 88, 3) := by decide +kernel
theorem dX8_init_448 : decode cX8_init 448 = .ok (.aload_n 0, 1) := by decide +kernel
theorem dX8_init_449 : decode cX8_init 449 = .ok (.bipush 64, 2) := by decide +kernel
theorem dX8_init_451 : decode cX8_init 451 = .ok (.newarray .int, 2) := by decide +kernel
theorem dX8_init_453 : decode cX8_init 453 = .ok (.putfield 91, 3) := by decide +kernel
theorem dX8_init_456 : decode cX8_init 456 = .ok (.aload_n 0, 1) := by decide +kernel
theorem dX8_init_457 : decode cX8_init 457 = .ok (.sipush 256, 3) := by decide +kernel
theorem dX8_init_460 : decode cX8_init 460 = .ok (.newarray .int, 2) := by decide +kernel
theorem dX8_init_462 : decode cX8_init 462 = .ok (.putfield 94, 3) := by decide +kernel
theorem dX8_init_465 : decode cX8_init 465 = .ok (.aload_n 0, 1) := by decide +kernel
theorem dX8_init_466 : decode cX8_init 466 = .ok (.bipush 32, 2) := by decide +kernel
theorem dX8_init_468 : decode cX8_init 468 = .ok (.newarray .int, 2) := by decide +kernel
theorem dX8_init_470 : decode cX8_init 470 = .ok (.putfield 97, 3) := by decide +kernel
theorem dX8_init_473 : decode cX8_init 473 = .ok (.aload_n 0, 1) := by decide +kernel
theorem dX8_init_474 : decode cX8_init 474 = .ok (.bipush 64, 2) := by decide +kernel
theorem dX8_init_476 : decode cX8_init 476 = .ok (.newarray .int, 2) := by decide +kernel
theorem dX8_init_478 : decode cX8_init 478 = .ok (.putfield 100, 3) := by decide +kernel
theorem dX8_init_481 : decode cX8_init 481 = .ok (.aload_n 0, 1) := by decide +kernel
theorem dX8_init_482 : decode cX8_init 482 = .ok (.bipush 64, 2) := by decide +kernel
theorem dX8_init_484 : decode cX8_init 484 = .ok (.newarray .int, 2) := by decide +kernel
theorem dX8_init_486 : decode cX8_init 486 = .ok (.putfield 103, 3) := by decide +kernel
theorem dX8_init_489 : decode cX8_init 489 = .ok (.aload_n 0, 1) := by decide +kernel
theorem dX8_init_490 : decode cX8_init 490 = .ok (.ldc2_w 106, 3) := by decide +kernel
theorem dX8_init_493 : decode cX8_init 493 = .ok (.putfield 108, 3) := by decide +kernel
theorem dX8_init_496 : decode cX8_init 496 = .ok (.aload_n 0, 1) := by decide +kernel
theorem dX8_init_497 : decode cX8_init 497 = .ok (.ldc2_w 106, 3) := by decide +kernel
theorem dX8_init_500 : decode cX8_init 500 = .ok (.putfield 112, 3) := by decide +kernel
theorem dX8_init_503 : decode cX8_init 503 = .ok (.aload_n 0, 1) := by decide +kernel
theorem dX8_init_504 : decode cX8_init 504 = .ok (.ldc2_w 106, 3) := by decide +kernel
theorem dX8_init_507 : decode cX8_init 507 = .ok (.putfield 115, 3) := by decide +kernel
theorem dX8_init_510 : decode cX8_init 510 = .ok (.aload_n 0, 1) := by decide +kernel
theorem dX8_init_511 : decode cX8_init 511 = .ok (.iconst 1, 1) := by decide +kernel
theorem dX8_init_512 : decode cX8_init 512 = .ok (.putfield 118, 3) := by decide +kernel
theorem dX8_init_515 : decode cX8_init 515 = .ok (.aload_n 0, 1) := by decide +kernel
theorem dX8_init_516 : decode cX8_init 516 = .ok (.iconst 5, 1) := by decide +kernel
theorem dX8_init_517 : decode cX8_init 517 = .ok (.newarray .int, 2) := by decide +kernel
theorem dX8_init_519 : decode cX8_init 519 = .ok (.putfield 122, 3) := by decide +kernel
theorem dX8_init_522 : decode cX8_init 522 = .ok (.aload_n 0, 1) := by decide +kernel
theorem dX8_init_523 : decode cX8_init 523 = .ok (.bipush 80, 2) := by decide +kernel
theorem dX8_init_525 : decode cX8_init 525 = .ok (.newarray .int, 2) := by decide +kernel
theorem dX8_init_527 : decode cX8_init 527 = .ok (.putfield 125, 3) := by decide +kernel
theorem dX8_init_530 : decode cX8_init 530 = .ok (.aload_n 0, 1) := by decide +kernel
theorem dX8_init_531 : decode cX8_init 531 = .ok (.iconst 5, 1) := by decide +kernel
theorem dX8_init_532 : decode cX8_init 532 = .ok (.newarray .long, 2) := by decide +kernel
theorem dX8_init_534 : decode cX8_init 534 = .ok (.putfield 128, 3) := by decide +kernel
theorem dX8_init_537 : decode cX8_init 537 = .ok (.aload_n 0, 1) := by decide +kernel
theorem dX8_init_538 : decode cX8_init 538 = .ok (.bipush 8, 2) := by decide +kernel
theorem dX8_init_540 : decode cX8_init 540 = .ok (.newarray .boolean, 2) := by decide +kernel
theorem dX8_init_542 : decode cX8_init 542 = .ok (.putfield 132, 3) := by decide +kernel
theorem dX8_init_545 : decode cX8_init 545 = .ok (.aload_n 0, 1) := by decide +kernel
theorem dX8_init_546 : decode cX8_init 546 = .ok (.bipush 8, 2) := by decide +kernel
theorem dX8_init_548 : decode cX8_init 548 = .ok (.newarray .int, 2) := by decide +kernel
theorem dX8_init_550 : decode cX8_init 550 = .ok (.putfield 136, 3) := by decide +kernel
theorem dX8_init_553 : decode cX8_init 553 = .ok (.aload_n 0, 1) := by decide +kernel
theorem dX8_init_554 : decode cX8_init 554 = .ok (.bipush 8, 2) := by decide +kernel
theorem dX8_init_556 : decode cX8_init 556 = .ok (.newarray .int, 2) := by decide +kernel
theorem dX8_init_558 : decode cX8_init 558 = .ok (.putfield 139, 3) := by decide +kernel
theorem dX8_init_561 : decode cX8_init 561 = .ok (.aload_n 0, 1) := by decide +kernel
theorem dX8_init_562 : decode cX8_init 562 = .ok (.bipush 8, 2) := by decide +kernel
theorem dX8_init_564 : decode cX8_init 564 = .ok (.newarray .boolean, 2) := by decide +kernel
theorem dX8_init_566 : decode cX8_init 566 = .ok (.putfield 142, 3) := by decide +kernel
theorem dX8_init_569 : decode cX8_init 569 = .ok (.aload_n 0, 1) := by decide +kernel
theorem dX8_init_570 : decode cX8_init 570 = .ok (.bipush 8, 2) := by decide +kernel
theorem dX8_init_572 : decode cX8_init 572 = .ok (.newarray .int, 2) := by decide +kernel
theorem dX8_init_574 : decode cX8_init 574 = .ok (.putfield 145, 3) := by decide +kernel
theorem dX8_init_577 : decode cX8_init 577 = .ok (.aload_n 0, 1) := by decide +kernel
theorem dX8_init_578 : decode cX8_init 578 = .ok (.bipush 8, 2) := by decide +kernel
theorem dX8_init_580 : decode cX8_init 580 = .ok (.newarray .long, 2) := by decide +kernel
theorem dX8_init_582 : decode cX8_init 582 = .ok (.putfield 148, 3) := by decide +kernel
theorem dX8_init_585 : decode cX8_init 585 = .ok (.aload_n 0, 1) := by decide +kernel
theorem dX8_init_586 : decode cX8_init 586 = .ok (.bipush 8, 2) := by decide +kernel
theorem dX8_init_588 : decode cX8_init 588 = .ok (.newarray .long, 2) := by decide +kernel
theorem dX8_init_590 : decode cX8_init 590 = .ok (.putfield 151, 3) := by decide +kernel
theorem dX8_init_593 : decode cX8_init 593 = .ok (.aload_n 0, 1) := by decide +kernel
theorem dX8_init_594 : decode cX8_init 594 = .ok (.bipush 8, 2) := by decide +kernel
theorem dX8_init_596 : decode cX8_init 596 = .ok (.newarray .long, 2) := by decide +kernel
theorem dX8_init_598 : decode cX8_init 598 = .ok (.putfield 154, 3) := by decide +kernel
theorem dX8_init_601 : decode cX8_init 601 = .ok (.aload_n 0, 1) := by decide +kernel
theorem dX8_init_602 : decode cX8_init 602 = .ok (.iconst 2, 1) := by decide +kernel
theorem dX8_init_603 : decode cX8_init 603 = .ok (.newarray .int, 2) := by decide +kernel
theorem dX8_init_605 : decode cX8_init 605 = .ok (.putfield 157, 3) := by decide +kernel
theorem dX8_init_608 : decode cX8_init 608 = .ok (.aload_n 0, 1) := by decide +kernel
theorem dX8_init_609 : decode cX8_init 609 = .ok (.bipush 80, 2) := by decide +kernel
theorem dX8_init_611 : decode cX8_init 611 = .ok (.newarray .int, 2) := by decide +kernel
theorem dX8_init_613 : decode cX8_init 613 = .ok (.putfield 160, 3) := by decide +kernel
theorem dX8_init_616 : decode cX8_init 616 = .ok (.aload_n 0, 1) := by decide +kernel
theorem dX8_init_617 : decode cX8_init 617 = .ok (.bipush 24, 2) := by decide +kernel
theorem dX8_init_619 : decode cX8_init 619 = .ok (.newarray .int, 2) := by decide +kernel
theorem dX8_init_621 : decode cX8_init 621 = .ok (.putfield 163, 3) := by decide +kernel
theorem dX8_init_624 : decode cX8_init 624 = .ok (.return_, 1) := by decide +kernel
end
section
theorem dL_law_0 : decode cL_law 0 = .ok (.new 8, 3) := by decide +kernel
theorem dL_law_3 : decode cL_law 3 = .ok (.dup, 1) := by decide +kernel
theorem dL_law_4 : decode cL_law 4 = .ok (.invokespecial 59, 3) := by decide +kernel
theorem dL_law_7 : decode cL_law 7 = .ok (.astore_n 1, 1) := by decide +kernel
theorem dL_law_8 : decode cL_law 8 = .ok (.new 60, 3) := by decide +kernel
theorem dL_law_11 : decode cL_law 11 = .ok (.dup, 1) := by decide +kernel
theorem dL_law_12 : decode cL_law 12 = .ok (.invokespecial 62, 3) := by decide +kernel
theorem dL_law_15 : decode cL_law 15 = .ok (.astore_n 2, 1) := by decide +kernel
theorem dL_law_16 : decode cL_law 16 = .ok (.iconst 1, 1) := by decide +kernel
theorem dL_law_17 : decode cL_law 17 = .ok (.newarray .long, 2) := by decide +kernel
theorem dL_law_19 : decode cL_law 19 = .ok (.astore_n 3, 1) := by decide +kernel
theorem dL_law_20 : decode cL_law 20 = .ok (.iconst 0, 1) := by decide +kernel
theorem dL_law_21 : decode cL_law 21 = .ok (.istore 4, 2) := by decide +kernel
theorem dL_law_23 : decode cL_law 23 = .ok (.iload 4, 2) := by decide +kernel
theorem dL_law_25 : decode cL_law 25 = .ok (.aload_n 0, 1) := by decide +kernel
theorem dL_law_26 : decode cL_law 26 = .ok (.arraylength, 1) := by decide +kernel
theorem dL_law_27 : decode cL_law 27 = .ok (.bipush 7, 2) := by decide +kernel
theorem dL_law_29 : decode cL_law 29 = .ok (.isub, 1) := by decide +kernel
theorem dL_law_30 : decode cL_law 30 = .ok (.if_icmp .gt 1194, 3) := by decide +kernel
theorem dL_law_33 : decode cL_law 33 = .ok (.aload_n 0, 1) := by decide +kernel
theorem dL_law_34 : decode cL_law 34 = .ok (.iload 4, 2) := by decide +kernel
theorem dL_law_36 : decode cL_law 36 = .ok (.iaload, 1) := by decide +kernel
theorem dL_law_37 : decode cL_law 37 = .ok (.bipush 15, 2) := by decide +kernel
theorem dL_law_39 : decode cL_law 39 = .ok (.iand, 1) := by decide +kernel
theorem dL_law_40 : decode cL_law 40 = .ok (.tableswitch 1178 0 15 #[80, 135, 222, 380, 441, 501, 581, 622, 635, 691, 795, 851, 931, 999, 1066, 1122], 80) := by decide +kernel
theorem dL_law_120 : decode cL_law 120 = .ok (.aload_n 1, 1) := by decide +kernel
theorem dL_law_121 : decode cL_law 121 = .ok (.aload_n 0, 1) := by decide +kernel
theorem dL_law_122 : decode cL_law 122 = .ok (.iload 4, 2) := by decide +kernel
theorem dL_law_124 : decode cL_law 124 = .ok (.iconst 1, 1) := by decide +kernel
theorem dL_law_125 : decode cL_law 125 = .ok (.iadd, 1) := by decide +kernel
theorem dL_law_126 : decode cL_law 126 = .ok (.iaload, 1) := by decide +kernel
theorem dL_law_127 : decode cL_law 127 = .ok (.i2l, 1) := by decide +kernel
theorem dL_law_128 : decode cL_law 128 = .ok (.bipush 32, 2) := by decide +kernel
theorem dL_law_130 : decode cL_law 130 = .ok (.lshl, 1) := by decide +kernel
theorem dL_law_131 : decode cL_law 131 = .ok (.aload_n 0, 1) := by decide +kernel
theorem dL_law_132 : decode cL_law 132 = .ok (.iload 4, 2) := by decide +kernel
theorem dL_law_134 : decode cL_law 134 = .ok (.iconst 2, 1) := by decide +kernel
theorem dL_law_135 : decode cL_law 135 = .ok (.iadd, 1) := by decide +kernel
theorem dL_law_136 : decode cL_law 136 = .ok (.iaload, 1) := by decide +kernel
theorem dL_law_137 : decode cL_law 137 = .ok (.i2l, 1) := by decide +kernel
theorem dL_law_138 : decode cL_law 138 = .ok (.ldc2_w 63, 3) := by decide +kernel
theorem dL_law_141 : decode cL_law 141 = .ok (.land, 1) := by decide +kernel
theorem dL_law_142 : decode cL_law 142 = .ok (.lor, 1) := by decide +kernel
theorem dL_law_143 : decode cL_law 143 = .ok (.invokevirtual 65, 3) := by decide +kernel
theorem dL_law_146 : decode cL_law 146 = .ok (.aload_n 2, 1) := by decide +kernel
theorem dL_law_147 : decode cL_law 147 = .ok (.aload_n 0, 1) := by decide +kernel
theorem dL_law_148 : decode cL_law 148 = .ok (.iload 4, 2) := by decide +kernel
theorem dL_law_150 : decode cL_law 150 = .ok (.iconst 1, 1) := by decide +kernel
theorem dL_law_151 : decode cL_law 151 = .ok (.iadd, 1) := by decide +kernel
theorem dL_law_152 : decode cL_law 152 = .ok (.iaload, 1) := by decide +kernel
theorem dL_law_153 : decode cL_law 153 = .ok (.i2l, 1) := by decide +kernel
theorem dL_law_154 : decode cL_law 154 = .ok (.bipush 32, 2) := by decide +kernel
theorem dL_law_156 : decode cL_law 156 = .ok (.lshl, 1) := by decide +kernel
theorem dL_law_157 : decode cL_law 157 = .ok (.aload_n 0, 1) := by decide +kernel
theorem dL_law_158 : decode cL_law 158 = .ok (.iload 4, 2) := by decide +kernel
theorem dL_law_160 : decode cL_law 160 = .ok (.iconst 2, 1) := by decide +kernel
theorem dL_law_161 : decode cL_law 161 = .ok (.iadd, 1) := by decide +kernel
theorem dL_law_162 : decode cL_law 162 = .ok (.iaload, 1) := by decide +kernel
theorem dL_law_163 : decode cL_law 163 = .ok (.i2l, 1) := by decide +kernel
theorem dL_law_164 : decode cL_law 164 = .ok (.ldc2_w 63, 3) := by decide +kernel
theorem dL_law_167 : decode cL_law 167 = .ok (.land, 1) := by decide +kernel
theorem dL_law_168 : decode cL_law 168 = .ok (.lor, 1) := by decide +kernel
theorem dL_law_169 : decode cL_law 169 = .ok (.invokevirtual 69, 3) := by decide +kernel
theorem dL_law_172 : decode cL_law 172 = .ok (.goto 1046, 3) := by decide +kernel
theorem dL_law_175 : decode cL_law 175 = .ok (.aload_n 1, 1) := by decide +kernel
theorem dL_law_176 : decode cL_law 176 = .ok (.aload_n 0, 1) := by decide +kernel
theorem dL_law_177 : decode cL_law 177 = .ok (.iload 4, 2) := by decide +kernel
theorem dL_law_179 : decode cL_law 179 = .ok (.iconst 1, 1) := by decide +kernel
theorem dL_law_180 : decode cL_law 180 = .ok (.iadd, 1) := by decide +kernel
theorem dL_law_181 : decode cL_law 181 = .ok (.iaload, 1) := by decide +kernel
theorem dL_law_182 : decode cL_law 182 = .ok (.i2l, 1) := by decide +kernel
theorem dL_law_183 : decode cL_law 183 = .ok (.bipush 32, 2) := by decide +kernel
theorem dL_law_185 : decode cL_law 185 = .ok (.lshl, 1) := by decide +kernel
theorem dL_law_186 : decode cL_law 186 = .ok (.aload_n 0, 1) := by decide +kernel
theorem dL_law_187 : decode cL_law 187 = .ok (.iload 4, 2) := by decide +kernel
theorem dL_law_189 : decode cL_law 189 = .ok (.iconst 2, 1) := by decide +kernel
theorem dL_law_190 : decode cL_law 190 = .ok (.iadd, 1) := by decide +kernel
theorem dL_law_191 : decode cL_law 191 = .ok (.iaload, 1) := by decide +kernel
theorem dL_law_192 : decode cL_law 192 = .ok (.i2l, 1) := by decide +kernel
theorem dL_law_193 : decode cL_law 193 = .ok (.ldc2_w 63, 3) := by decide +kernel
theorem dL_law_196 : decode cL_law 196 = .ok (.land, 1) := by decide +kernel
theorem dL_law_197 : decode cL_law 197 = .ok (.lor, 1) := by decide +kernel
theorem dL_law_198 : decode cL_law 198 = .ok (.aload_n 3, 1) := by decide +kernel
theorem dL_law_199 : decode cL_law 199 = .ok (.invokestatic 70, 3) := by decide +kernel
theorem dL_law_202 : decode cL_law 202 = .ok (.istore 5, 2) := by decide +kernel
theorem dL_law_204 : decode cL_law 204 = .ok (.aload_n 2, 1) := by decide +kernel
theorem dL_law_205 : decode cL_law 205 = .ok (.aload_n 0, 1) := by decide +kernel
theorem dL_law_206 : decode cL_law 206 = .ok (.iload 4, 2) := by decide +kernel
theorem dL_law_208 : decode cL_law 208 = .ok (.iconst 1, 1) := by decide +kernel
theorem dL_law_209 : decode cL_law 209 = .ok (.iadd, 1) := by decide +kernel
theorem dL_law_210 : decode cL_law 210 = .ok (.iaload, 1) := by decide +kernel
theorem dL_law_211 : decode cL_law 211 = .ok (.i2l, 1) := by decide +kernel
theorem dL_law_212 : decode cL_law 212 = .ok (.bipush 32, 2) := by decide +kernel
theorem dL_law_214 : decode cL_law 214 = .ok (.lshl, 1) := by decide +kernel
theorem dL_law_215 : decode cL_law 215 = .ok (.aload_n 0, 1) := by decide +kernel
theorem dL_law_216 : decode cL_law 216 = .ok (.iload 4, 2) := by decide +kernel
theorem dL_law_218 : decode cL_law 218 = .ok (.iconst 2, 1) := by decide +kernel
theorem dL_law_219 : decode cL_law 219 = .ok (.iadd, 1) := by decide +kernel
theorem dL_law_220 : decode cL_law 220 = .ok (.iaload, 1) := by decide +kernel
theorem dL_law_221 : decode cL_law 221 = .ok (.i2l, 1) := by decide +kernel
theorem dL_law_222 : decode cL_law 222 = .ok (.ldc2_w 63, 3) := by decide +kernel
theorem dL_law_225 : decode cL_law 225 = .ok (.land, 1) := by decide +kernel
theorem dL_law_226 : decode cL_law 226 = .ok (.lor, 1) := by decide +kernel
theorem dL_law_227 : decode cL_law 227 = .ok (.invokevirtual 75, 3) := by decide +kernel
theorem dL_law_230 : decode cL_law 230 = .ok (.lstore 6, 2) := by decide +kernel
theorem dL_law_232 : decode cL_law 232 = .ok (.aload_n 2, 1) := by decide +kernel
theorem dL_law_233 : decode cL_law 233 = .ok (.invokevirtual 76, 3) := by decide +kernel
theorem dL_law_236 : decode cL_law 236 = .ok (.iload 5, 2) := by decide +kernel
theorem dL_law_238 : decode cL_law 238 = .ok (.if_icmp .eq 5, 3) := by decide +kernel
theorem dL_law_241 : decode cL_law 241 = .ok (.iconst 0, 1) := by decide +kernel
theorem dL_law_242 : decode cL_law 242 = .ok (.ireturn, 1) := by decide +kernel
theorem dL_law_243 : decode cL_law 243 = .ok (.iload 5, 2) := by decide +kernel
theorem dL_law_245 : decode cL_law 245 = .ok (.ifCond .ne 14, 3) := by decide +kernel
theorem dL_law_248 : decode cL_law 248 = .ok (.aload_n 3, 1) := by decide +kernel
theorem dL_law_249 : decode cL_law 249 = .ok (.iconst 0, 1) := by decide +kernel
theorem dL_law_250 : decode cL_law 250 = .ok (.laload, 1) := by decide +kernel
theorem dL_law_251 : decode cL_law 251 = .ok (.lload 6, 2) := by decide +kernel
theorem dL_law_253 : decode cL_law 253 = .ok (.lcmp, 1) := by decide +kernel
theorem dL_law_254 : decode cL_law 254 = .ok (.ifCond .eq 5, 3) := by decide +kernel
theorem dL_law_257 : decode cL_law 257 = .ok (.iconst 0, 1) := by decide +kernel
theorem dL_law_258 : decode cL_law 258 = .ok (.ireturn, 1) := by decide +kernel
theorem dL_law_259 : decode cL_law 259 = .ok (.goto 959, 3) := by decide +kernel
theorem dL_law_262 : decode cL_law 262 = .ok (.aload_n 1, 1) := by decide +kernel
theorem dL_law_263 : decode cL_law 263 = .ok (.aload_n 0, 1) := by decide +kernel
theorem dL_law_264 : decode cL_law 264 = .ok (.iload 4, 2) := by decide +kernel
theorem dL_law_266 : decode cL_law 266 = .ok (.iconst 1, 1) := by decide +kernel
theorem dL_law_267 : decode cL_law 267 = .ok (.iadd, 1) := by decide +kernel
theorem dL_law_268 : decode cL_law 268 = .ok (.iaload, 1) := by decide +kernel
theorem dL_law_269 : decode cL_law 269 = .ok (.i2l, 1) := by decide +kernel
theorem dL_law_270 : decode cL_law 270 = .ok (.bipush 32, 2) := by decide +kernel
theorem dL_law_272 : decode cL_law 272 = .ok (.lshl, 1) := by decide +kernel
theorem dL_law_273 : decode cL_law 273 = .ok (.aload_n 0, 1) := by decide +kernel
theorem dL_law_274 : decode cL_law 274 = .ok (.iload 4, 2) := by decide +kernel
theorem dL_law_276 : decode cL_law 276 = .ok (.iconst 2, 1) := by decide +kernel
theorem dL_law_277 : decode cL_law 277 = .ok (.iadd, 1) := by decide +kernel
theorem dL_law_278 : decode cL_law 278 = .ok (.iaload, 1) := by decide +kernel
theorem dL_law_279 : decode cL_law 279 = .ok (.i2l, 1) := by decide +kernel
theorem dL_law_280 : decode cL_law 280 = .ok (.ldc2_w 63, 3) := by decide +kernel
theorem dL_law_283 : decode cL_law 283 = .ok (.land, 1) := by decide +kernel
theorem dL_law_284 : decode cL_law 284 = .ok (.lor, 1) := by decide +kernel
theorem dL_law_285 : decode cL_law 285 = .ok (.aload_n 0, 1) := by decide +kernel
theorem dL_law_286 : decode cL_law 286 = .ok (.iload 4, 2) := by decide +kernel
theorem dL_law_288 : decode cL_law 288 = .ok (.iconst 3, 1) := by decide +kernel
theorem dL_law_289 : decode cL_law 289 = .ok (.iadd, 1) := by decide +kernel
theorem dL_law_290 : decode cL_law 290 = .ok (.iaload, 1) := by decide +kernel
theorem dL_law_291 : decode cL_law 291 = .ok (.i2l, 1) := by decide +kernel
theorem dL_law_292 : decode cL_law 292 = .ok (.bipush 32, 2) := by decide +kernel
theorem dL_law_294 : decode cL_law 294 = .ok (.lshl, 1) := by decide +kernel
theorem dL_law_295 : decode cL_law 295 = .ok (.aload_n 0, 1) := by decide +kernel
theorem dL_law_296 : decode cL_law 296 = .ok (.iload 4, 2) := by decide +kernel
theorem dL_law_298 : decode cL_law 298 = .ok (.iconst 4, 1) := by decide +kernel
theorem dL_law_299 : decode cL_law 299 = .ok (.iadd, 1) := by decide +kernel
theorem dL_law_300 : decode cL_law 300 = .ok (.iaload, 1) := by decide +kernel
theorem dL_law_301 : decode cL_law 301 = .ok (.i2l, 1) := by decide +kernel
theorem dL_law_302 : decode cL_law 302 = .ok (.ldc2_w 63, 3) := by decide +kernel
theorem dL_law_305 : decode cL_law 305 = .ok (.land, 1) := by decide +kernel
theorem dL_law_306 : decode cL_law 306 = .ok (.lor, 1) := by decide +kernel
theorem dL_law_307 : decode cL_law 307 = .ok (.aload_n 0, 1) := by decide +kernel
theorem dL_law_308 : decode cL_law 308 = .ok (.iload 4, 2) := by decide +kernel
theorem dL_law_310 : decode cL_law 310 = .ok (.iconst 5, 1) := by decide +kernel
theorem dL_law_311 : decode cL_law 311 = .ok (.iadd, 1) := by decide +kernel
theorem dL_law_312 : decode cL_law 312 = .ok (.iaload, 1) := by decide +kernel
theorem dL_law_313 : decode cL_law 313 = .ok (.i2l, 1) := by decide +kernel
theorem dL_law_314 : decode cL_law 314 = .ok (.bipush 32, 2) := by decide +kernel
theorem dL_law_316 : decode cL_law 316 = .ok (.lshl, 1) := by decide +kernel
theorem dL_law_317 : decode cL_law 317 = .ok (.aload_n 0, 1) := by decide +kernel
theorem dL_law_318 : decode cL_law 318 = .ok (.iload 4, 2) := by decide +kernel
theorem dL_law_320 : decode cL_law 320 = .ok (.bipush 6, 2) := by decide +kernel
theorem dL_law_322 : decode cL_law 322 = .ok (.iadd, 1) := by decide +kernel
theorem dL_law_323 : decode cL_law 323 = .ok (.iaload, 1) := by decide +kernel
theorem dL_law_324 : decode cL_law 324 = .ok (.i2l, 1) := by decide +kernel
theorem dL_law_325 : decode cL_law 325 = .ok (.ldc2_w 63, 3) := by decide +kernel
theorem dL_law_328 : decode cL_law 328 = .ok (.land, 1) := by decide +kernel
theorem dL_law_329 : decode cL_law 329 = .ok (.lor, 1) := by decide +kernel
theorem dL_law_330 : decode cL_law 330 = .ok (.invokestatic 80, 3) := by decide +kernel
theorem dL_law_333 : decode cL_law 333 = .ok (.istore 5, 2) := by decide +kernel
theorem dL_law_335 : decode cL_law 335 = .ok (.aload_n 2, 1) := by decide +kernel
theorem dL_law_336 : decode cL_law 336 = .ok (.aload_n 0, 1) := by decide +kernel
theorem dL_law_337 : decode cL_law 337 = .ok (.iload 4, 2) := by decide +kernel
theorem dL_law_339 : decode cL_law 339 = .ok (.iconst 1, 1) := by decide +kernel
theorem dL_law_340 : decode cL_law 340 = .ok (.iadd, 1) := by decide +kernel
theorem dL_law_341 : decode cL_law 341 = .ok (.iaload, 1) := by decide +kernel
theorem dL_law_342 : decode cL_law 342 = .ok (.i2l, 1) := by decide +kernel
theorem dL_law_343 : decode cL_law 343 = .ok (.bipush 32, 2) := by decide +kernel
theorem dL_law_345 : decode cL_law 345 = .ok (.lshl, 1) := by decide +kernel
theorem dL_law_346 : decode cL_law 346 = .ok (.aload_n 0, 1) := by decide +kernel
theorem dL_law_347 : decode cL_law 347 = .ok (.iload 4, 2) := by decide +kernel
theorem dL_law_349 : decode cL_law 349 = .ok (.iconst 2, 1) := by decide +kernel
theorem dL_law_350 : decode cL_law 350 = .ok (.iadd, 1) := by decide +kernel
theorem dL_law_351 : decode cL_law 351 = .ok (.iaload, 1) := by decide +kernel
theorem dL_law_352 : decode cL_law 352 = .ok (.i2l, 1) := by decide +kernel
theorem dL_law_353 : decode cL_law 353 = .ok (.ldc2_w 63, 3) := by decide +kernel
theorem dL_law_356 : decode cL_law 356 = .ok (.land, 1) := by decide +kernel
theorem dL_law_357 : decode cL_law 357 = .ok (.lor, 1) := by decide +kernel
theorem dL_law_358 : decode cL_law 358 = .ok (.aload_n 0, 1) := by decide +kernel
theorem dL_law_359 : decode cL_law 359 = .ok (.iload 4, 2) := by decide +kernel
theorem dL_law_361 : decode cL_law 361 = .ok (.iconst 3, 1) := by decide +kernel
theorem dL_law_362 : decode cL_law 362 = .ok (.iadd, 1) := by decide +kernel
theorem dL_law_363 : decode cL_law 363 = .ok (.iaload, 1) := by decide +kernel
theorem dL_law_364 : decode cL_law 364 = .ok (.i2l, 1) := by decide +kernel
theorem dL_law_365 : decode cL_law 365 = .ok (.bipush 32, 2) := by decide +kernel
theorem dL_law_367 : decode cL_law 367 = .ok (.lshl, 1) := by decide +kernel
theorem dL_law_368 : decode cL_law 368 = .ok (.aload_n 0, 1) := by decide +kernel
theorem dL_law_369 : decode cL_law 369 = .ok (.iload 4, 2) := by decide +kernel
theorem dL_law_371 : decode cL_law 371 = .ok (.iconst 4, 1) := by decide +kernel
theorem dL_law_372 : decode cL_law 372 = .ok (.iadd, 1) := by decide +kernel
theorem dL_law_373 : decode cL_law 373 = .ok (.iaload, 1) := by decide +kernel
theorem dL_law_374 : decode cL_law 374 = .ok (.i2l, 1) := by decide +kernel
theorem dL_law_375 : decode cL_law 375 = .ok (.ldc2_w 63, 3) := by decide +kernel
theorem dL_law_378 : decode cL_law 378 = .ok (.land, 1) := by decide +kernel
theorem dL_law_379 : decode cL_law 379 = .ok (.lor, 1) := by decide +kernel
theorem dL_law_380 : decode cL_law 380 = .ok (.aload_n 0, 1) := by decide +kernel
theorem dL_law_381 : decode cL_law 381 = .ok (.iload 4, 2) := by decide +kernel
theorem dL_law_383 : decode cL_law 383 = .ok (.iconst 5, 1) := by decide +kernel
theorem dL_law_384 : decode cL_law 384 = .ok (.iadd, 1) := by decide +kernel
theorem dL_law_385 : decode cL_law 385 = .ok (.iaload, 1) := by decide +kernel
theorem dL_law_386 : decode cL_law 386 = .ok (.i2l, 1) := by decide +kernel
theorem dL_law_387 : decode cL_law 387 = .ok (.bipush 32, 2) := by decide +kernel
theorem dL_law_389 : decode cL_law 389 = .ok (.lshl, 1) := by decide +kernel
theorem dL_law_390 : decode cL_law 390 = .ok (.aload_n 0, 1) := by decide +kernel
theorem dL_law_391 : decode cL_law 391 = .ok (.iload 4, 2) := by decide +kernel
theorem dL_law_393 : decode cL_law 393 = .ok (.bipush 6, 2) := by decide +kernel
theorem dL_law_395 : decode cL_law 395 = .ok (.iadd, 1) := by decide +kernel
theorem dL_law_396 : decode cL_law 396 = .ok (.iaload, 1) := by decide +kernel
theorem dL_law_397 : decode cL_law 397 = .ok (.i2l, 1) := by decide +kernel
theorem dL_law_398 : decode cL_law 398 = .ok (.ldc2_w 63, 3) := by decide +kernel
theorem dL_law_401 : decode cL_law 401 = .ok (.land, 1) := by decide +kernel
theorem dL_law_402 : decode cL_law 402 = .ok (.lor, 1) := by decide +kernel
theorem dL_law_403 : decode cL_law 403 = .ok (.invokevirtual 83, 3) := by decide +kernel
theorem dL_law_406 : decode cL_law 406 = .ok (.aload_n 2, 1) := by decide +kernel
theorem dL_law_407 : decode cL_law 407 = .ok (.invokevirtual 76, 3) := by decide +kernel
theorem dL_law_410 : decode cL_law 410 = .ok (.iload 5, 2) := by decide +kernel
theorem dL_law_412 : decode cL_law 412 = .ok (.if_icmp .eq 5, 3) := by decide +kernel
theorem dL_law_415 : decode cL_law 415 = .ok (.iconst 0, 1) := by decide +kernel
theorem dL_law_416 : decode cL_law 416 = .ok (.ireturn, 1) := by decide +kernel
theorem dL_law_417 : decode cL_law 417 = .ok (.goto 801, 3) := by decide +kernel
theorem dL_law_420 : decode cL_law 420 = .ok (.aload_n 1, 1) := by decide +kernel
theorem dL_law_421 : decode cL_law 421 = .ok (.aload_n 0, 1) := by decide +kernel
theorem dL_law_422 : decode cL_law 422 = .ok (.iload 4, 2) := by decide +kernel
theorem dL_law_424 : decode cL_law 424 = .ok (.iconst 1, 1) := by decide +kernel
theorem dL_law_425 : decode cL_law 425 = .ok (.iadd, 1) := by decide +kernel
theorem dL_law_426 : decode cL_law 426 = .ok (.iaload, 1) := by decide +kernel
theorem dL_law_427 : decode cL_law 427 = .ok (.aload_n 0, 1) := by decide +kernel
theorem dL_law_428 : decode cL_law 428 = .ok (.iload 4, 2) := by decide +kernel
theorem dL_law_430 : decode cL_law 430 = .ok (.iconst 2, 1) := by decide +kernel
theorem dL_law_431 : decode cL_law 431 = .ok (.iadd, 1) := by decide +kernel
theorem dL_law_432 : decode cL_law 432 = .ok (.iaload, 1) := by decide +kernel
theorem dL_law_433 : decode cL_law 433 = .ok (.aload_n 0, 1) := by decide +kernel
theorem dL_law_434 : decode cL_law 434 = .ok (.iload 4, 2) := by decide +kernel
theorem dL_law_436 : decode cL_law 436 = .ok (.iconst 3, 1) := by decide +kernel
theorem dL_law_437 : decode cL_law 437 = .ok (.iadd, 1) := by decide +kernel
theorem dL_law_438 : decode cL_law 438 = .ok (.iaload, 1) := by decide +kernel
theorem dL_law_439 : decode cL_law 439 = .ok (.aload_n 0, 1) := by decide +kernel
theorem dL_law_440 : decode cL_law 440 = .ok (.iload 4, 2) := by decide +kernel
theorem dL_law_442 : decode cL_law 442 = .ok (.iconst 4, 1) := by decide +kernel
theorem dL_law_443 : decode cL_law 443 = .ok (.iadd, 1) := by decide +kernel
theorem dL_law_444 : decode cL_law 444 = .ok (.iaload, 1) := by decide +kernel
theorem dL_law_445 : decode cL_law 445 = .ok (.invokevirtual 84, 3) := by decide +kernel
theorem dL_law_448 : decode cL_law 448 = .ok (.aload_n 2, 1) := by decide +kernel
theorem dL_law_449 : decode cL_law 449 = .ok (.aload_n 0, 1) := by decide +kernel
end
section
theorem dL_law_450 : decode cL_law 450 = .ok (.iload 4, 2) := by decide +kernel
theorem dL_law_452 : decode cL_law 452 = .ok (.iconst 1, 1) := by decide +kernel
theorem dL_law_453 : decode cL_law 453 = .ok (.iadd, 1) := by decide +kernel
theorem dL_law_454 : decode cL_law 454 = .ok (.iaload, 1) := by decide +kernel
theorem dL_law_455 : decode cL_law 455 = .ok (.aload_n 0, 1) := by decide +kernel
theorem dL_law_456 : decode cL_law 456 = .ok (.iload 4, 2) := by decide +kernel
theorem dL_law_458 : decode cL_law 458 = .ok (.iconst 2, 1) := by decide +kernel
theorem dL_law_459 : decode cL_law 459 = .ok (.iadd, 1) := by decide +kernel
theorem dL_law_460 : decode cL_law 460 = .ok (.iaload, 1) := by decide +kernel
theorem dL_law_461 : decode cL_law 461 = .ok (.aload_n 0, 1) := by decide +kernel
theorem dL_law_462 : decode cL_law 462 = .ok (.iload 4, 2) := by decide +kernel
theorem dL_law_464 : decode cL_law 464 = .ok (.iconst 3, 1) := by decide +kernel
theorem dL_law_465 : decode cL_law 465 = .ok (.iadd, 1) := by decide +kernel
theorem dL_law_466 : decode cL_law 466 = .ok (.iaload, 1) := by decide +kernel
theorem dL_law_467 : decode cL_law 467 = .ok (.aload_n 0, 1) := by decide +kernel
theorem dL_law_468 : decode cL_law 468 = .ok (.iload 4, 2) := by decide +kernel
theorem dL_law_470 : decode cL_law 470 = .ok (.iconst 4, 1) := by decide +kernel
theorem dL_law_471 : decode cL_law 471 = .ok (.iadd, 1) := by decide +kernel
theorem dL_law_472 : decode cL_law 472 = .ok (.iaload, 1) := by decide +kernel
theorem dL_law_473 : decode cL_law 473 = .ok (.invokevirtual 88, 3) := by decide +kernel
theorem dL_law_476 : decode cL_law 476 = .ok (.if_icmp .eq 742, 3) := by decide +kernel
theorem dL_law_479 : decode cL_law 479 = .ok (.iconst 0, 1) := by decide +kernel
theorem dL_law_480 : decode cL_law 480 = .ok (.ireturn, 1) := by decide +kernel
theorem dL_law_481 : decode cL_law 481 = .ok (.aload_n 1, 1) := by decide +kernel
theorem dL_law_482 : decode cL_law 482 = .ok (.aload_n 0, 1) := by decide +kernel
theorem dL_law_483 : decode cL_law 483 = .ok (.iload 4, 2) := by decide +kernel
theorem dL_law_485 : decode cL_law 485 = .ok (.iconst 1, 1) := by decide +kernel
theorem dL_law_486 : decode cL_law 486 = .ok (.iadd, 1) := by decide +kernel
theorem dL_law_487 : decode cL_law 487 = .ok (.iaload, 1) := by decide +kernel
theorem dL_law_488 : decode cL_law 488 = .ok (.aload_n 0, 1) := by decide +kernel
theorem dL_law_489 : decode cL_law 489 = .ok (.iload 4, 2) := by decide +kernel
theorem dL_law_491 : decode cL_law 491 = .ok (.iconst 2, 1) := by decide +kernel
theorem dL_law_492 : decode cL_law 492 = .ok (.iadd, 1) := by decide +kernel
theorem dL_law_493 : decode cL_law 493 = .ok (.iaload, 1) := by decide +kernel
theorem dL_law_494 : decode cL_law 494 = .ok (.aload_n 0, 1) := by decide +kernel
theorem dL_law_495 : decode cL_law 495 = .ok (.iload 4, 2) := by decide +kernel
theorem dL_law_497 : decode cL_law 497 = .ok (.iconst 3, 1) := by decide +kernel
theorem dL_law_498 : decode cL_law 498 = .ok (.iadd, 1) := by decide +kernel
theorem dL_law_499 : decode cL_law 499 = .ok (.iaload, 1) := by decide +kernel
theorem dL_law_500 : decode cL_law 500 = .ok (.invokestatic 89, 3) := by decide +kernel
theorem dL_law_503 : decode cL_law 503 = .ok (.istore 5, 2) := by decide +kernel
theorem dL_law_505 : decode cL_law 505 = .ok (.aload_n 2, 1) := by decide +kernel
theorem dL_law_506 : decode cL_law 506 = .ok (.aload_n 0, 1) := by decide +kernel
theorem dL_law_507 : decode cL_law 507 = .ok (.iload 4, 2) := by decide +kernel
theorem dL_law_509 : decode cL_law 509 = .ok (.iconst 1, 1) := by decide +kernel
theorem dL_law_510 : decode cL_law 510 = .ok (.iadd, 1) := by decide +kernel
theorem dL_law_511 : decode cL_law 511 = .ok (.iaload, 1) := by decide +kernel
theorem dL_law_512 : decode cL_law 512 = .ok (.aload_n 0, 1) := by decide +kernel
theorem dL_law_513 : decode cL_law 513 = .ok (.iload 4, 2) := by decide +kernel
theorem dL_law_515 : decode cL_law 515 = .ok (.iconst 2, 1) := by decide +kernel
theorem dL_law_516 : decode cL_law 516 = .ok (.iadd, 1) := by decide +kernel
theorem dL_law_517 : decode cL_law 517 = .ok (.iaload, 1) := by decide +kernel
theorem dL_law_518 : decode cL_law 518 = .ok (.aload_n 0, 1) := by decide +kernel
theorem dL_law_519 : decode cL_law 519 = .ok (.iload 4, 2) := by decide +kernel
theorem dL_law_521 : decode cL_law 521 = .ok (.iconst 3, 1) := by decide +kernel
theorem dL_law_522 : decode cL_law 522 = .ok (.iadd, 1) := by decide +kernel
theorem dL_law_523 : decode cL_law 523 = .ok (.iaload, 1) := by decide +kernel
theorem dL_law_524 : decode cL_law 524 = .ok (.invokevirtual 92, 3) := by decide +kernel
theorem dL_law_527 : decode cL_law 527 = .ok (.aload_n 2, 1) := by decide +kernel
theorem dL_law_528 : decode cL_law 528 = .ok (.invokevirtual 76, 3) := by decide +kernel
theorem dL_law_531 : decode cL_law 531 = .ok (.iload 5, 2) := by decide +kernel
theorem dL_law_533 : decode cL_law 533 = .ok (.if_icmp .eq 5, 3) := by decide +kernel
theorem dL_law_536 : decode cL_law 536 = .ok (.iconst 0, 1) := by decide +kernel
theorem dL_law_537 : decode cL_law 537 = .ok (.ireturn, 1) := by decide +kernel
theorem dL_law_538 : decode cL_law 538 = .ok (.goto 680, 3) := by decide +kernel
theorem dL_law_541 : decode cL_law 541 = .ok (.aload_n 1, 1) := by decide +kernel
theorem dL_law_542 : decode cL_law 542 = .ok (.aload_n 0, 1) := by decide +kernel
theorem dL_law_543 : decode cL_law 543 = .ok (.iload 4, 2) := by decide +kernel
theorem dL_law_545 : decode cL_law 545 = .ok (.iconst 1, 1) := by decide +kernel
theorem dL_law_546 : decode cL_law 546 = .ok (.iadd, 1) := by decide +kernel
theorem dL_law_547 : decode cL_law 547 = .ok (.iaload, 1) := by decide +kernel
theorem dL_law_548 : decode cL_law 548 = .ok (.aload_n 0, 1) := by decide +kernel
theorem dL_law_549 : decode cL_law 549 = .ok (.iload 4, 2) := by decide +kernel
theorem dL_law_551 : decode cL_law 551 = .ok (.iconst 2, 1) := by decide +kernel
theorem dL_law_552 : decode cL_law 552 = .ok (.iadd, 1) := by decide +kernel
theorem dL_law_553 : decode cL_law 553 = .ok (.iaload, 1) := by decide +kernel
theorem dL_law_554 : decode cL_law 554 = .ok (.aload_n 0, 1) := by decide +kernel
theorem dL_law_555 : decode cL_law 555 = .ok (.iload 4, 2) := by decide +kernel
theorem dL_law_557 : decode cL_law 557 = .ok (.iconst 3, 1) := by decide +kernel
theorem dL_law_558 : decode cL_law 558 = .ok (.iadd, 1) := by decide +kernel
theorem dL_law_559 : decode cL_law 559 = .ok (.iaload, 1) := by decide +kernel
theorem dL_law_560 : decode cL_law 560 = .ok (.aload_n 3, 1) := by decide +kernel
theorem dL_law_561 : decode cL_law 561 = .ok (.invokestatic 93, 3) := by decide +kernel
theorem dL_law_564 : decode cL_law 564 = .ok (.istore 5, 2) := by decide +kernel
theorem dL_law_566 : decode cL_law 566 = .ok (.aload_n 2, 1) := by decide +kernel
theorem dL_law_567 : decode cL_law 567 = .ok (.aload_n 0, 1) := by decide +kernel
theorem dL_law_568 : decode cL_law 568 = .ok (.iload 4, 2) := by decide +kernel
theorem dL_law_570 : decode cL_law 570 = .ok (.iconst 1, 1) := by decide +kernel
theorem dL_law_571 : decode cL_law 571 = .ok (.iadd, 1) := by decide +kernel
theorem dL_law_572 : decode cL_law 572 = .ok (.iaload, 1) := by decide +kernel
theorem dL_law_573 : decode cL_law 573 = .ok (.aload_n 0, 1) := by decide +kernel
theorem dL_law_574 : decode cL_law 574 = .ok (.iload 4, 2) := by decide +kernel
theorem dL_law_576 : decode cL_law 576 = .ok (.iconst 2, 1) := by decide +kernel
theorem dL_law_577 : decode cL_law 577 = .ok (.iadd, 1) := by decide +kernel
theorem dL_law_578 : decode cL_law 578 = .ok (.iaload, 1) := by decide +kernel
theorem dL_law_579 : decode cL_law 579 = .ok (.aload_n 0, 1) := by decide +kernel
theorem dL_law_580 : decode cL_law 580 = .ok (.iload 4, 2) := by decide +kernel
theorem dL_law_582 : decode cL_law 582 = .ok (.iconst 3, 1) := by decide +kernel
theorem dL_law_583 : decode cL_law 583 = .ok (.iadd, 1) := by decide +kernel
theorem dL_law_584 : decode cL_law 584 = .ok (.iaload, 1) := by decide +kernel
theorem dL_law_585 : decode cL_law 585 = .ok (.invokevirtual 96, 3) := by decide +kernel
theorem dL_law_588 : decode cL_law 588 = .ok (.istore 6, 2) := by decide +kernel
theorem dL_law_590 : decode cL_law 590 = .ok (.aload_n 2, 1) := by decide +kernel
theorem dL_law_591 : decode cL_law 591 = .ok (.invokevirtual 76, 3) := by decide +kernel
theorem dL_law_594 : decode cL_law 594 = .ok (.iload 5, 2) := by decide +kernel
theorem dL_law_596 : decode cL_law 596 = .ok (.if_icmp .eq 5, 3) := by decide +kernel
theorem dL_law_599 : decode cL_law 599 = .ok (.iconst 0, 1) := by decide +kernel
theorem dL_law_600 : decode cL_law 600 = .ok (.ireturn, 1) := by decide +kernel
theorem dL_law_601 : decode cL_law 601 = .ok (.iload 5, 2) := by decide +kernel
theorem dL_law_603 : decode cL_law 603 = .ok (.ifCond .ne 15, 3) := by decide +kernel
theorem dL_law_606 : decode cL_law 606 = .ok (.aload_n 3, 1) := by decide +kernel
theorem dL_law_607 : decode cL_law 607 = .ok (.iconst 0, 1) := by decide +kernel
theorem dL_law_608 : decode cL_law 608 = .ok (.laload, 1) := by decide +kernel
theorem dL_law_609 : decode cL_law 609 = .ok (.iload 6, 2) := by decide +kernel
theorem dL_law_611 : decode cL_law 611 = .ok (.i2l, 1) := by decide +kernel
theorem dL_law_612 : decode cL_law 612 = .ok (.lcmp, 1) := by decide +kernel
theorem dL_law_613 : decode cL_law 613 = .ok (.ifCond .eq 5, 3) := by decide +kernel
theorem dL_law_616 : decode cL_law 616 = .ok (.iconst 0, 1) := by decide +kernel
theorem dL_law_617 : decode cL_law 617 = .ok (.ireturn, 1) := by decide +kernel
theorem dL_law_618 : decode cL_law 618 = .ok (.goto 600, 3) := by decide +kernel
theorem dL_law_621 : decode cL_law 621 = .ok (.aload_n 1, 1) := by decide +kernel
theorem dL_law_622 : decode cL_law 622 = .ok (.aload_n 0, 1) := by decide +kernel
theorem dL_law_623 : decode cL_law 623 = .ok (.iload 4, 2) := by decide +kernel
theorem dL_law_625 : decode cL_law 625 = .ok (.iconst 1, 1) := by decide +kernel
theorem dL_law_626 : decode cL_law 626 = .ok (.iadd, 1) := by decide +kernel
theorem dL_law_627 : decode cL_law 627 = .ok (.iaload, 1) := by decide +kernel
theorem dL_law_628 : decode cL_law 628 = .ok (.ifCond .eq 7, 3) := by decide +kernel
theorem dL_law_631 : decode cL_law 631 = .ok (.iconst 1, 1) := by decide +kernel
theorem dL_law_632 : decode cL_law 632 = .ok (.goto 4, 3) := by decide +kernel
theorem dL_law_635 : decode cL_law 635 = .ok (.iconst 0, 1) := by decide +kernel
theorem dL_law_636 : decode cL_law 636 = .ok (.invokevirtual 97, 3) := by decide +kernel
theorem dL_law_639 : decode cL_law 639 = .ok (.aload_n 2, 1) := by decide +kernel
theorem dL_law_640 : decode cL_law 640 = .ok (.aload_n 0, 1) := by decide +kernel
theorem dL_law_641 : decode cL_law 641 = .ok (.iload 4, 2) := by decide +kernel
theorem dL_law_643 : decode cL_law 643 = .ok (.iconst 1, 1) := by decide +kernel
theorem dL_law_644 : decode cL_law 644 = .ok (.iadd, 1) := by decide +kernel
theorem dL_law_645 : decode cL_law 645 = .ok (.iaload, 1) := by decide +kernel
theorem dL_law_646 : decode cL_law 646 = .ok (.ifCond .eq 7, 3) := by decide +kernel
theorem dL_law_649 : decode cL_law 649 = .ok (.iconst 1, 1) := by decide +kernel
theorem dL_law_650 : decode cL_law 650 = .ok (.goto 4, 3) := by decide +kernel
theorem dL_law_653 : decode cL_law 653 = .ok (.iconst 0, 1) := by decide +kernel
theorem dL_law_654 : decode cL_law 654 = .ok (.invokevirtual 101, 3) := by decide +kernel
theorem dL_law_657 : decode cL_law 657 = .ok (.if_icmp .eq 561, 3) := by decide +kernel
theorem dL_law_660 : decode cL_law 660 = .ok (.iconst 0, 1) := by decide +kernel
theorem dL_law_661 : decode cL_law 661 = .ok (.ireturn, 1) := by decide +kernel
theorem dL_law_662 : decode cL_law 662 = .ok (.aload_n 1, 1) := by decide +kernel
theorem dL_law_663 : decode cL_law 663 = .ok (.invokevirtual 102, 3) := by decide +kernel
theorem dL_law_666 : decode cL_law 666 = .ok (.aload_n 2, 1) := by decide +kernel
theorem dL_law_667 : decode cL_law 667 = .ok (.invokevirtual 105, 3) := by decide +kernel
theorem dL_law_670 : decode cL_law 670 = .ok (.if_icmp .eq 548, 3) := by decide +kernel
theorem dL_law_673 : decode cL_law 673 = .ok (.iconst 0, 1) := by decide +kernel
theorem dL_law_674 : decode cL_law 674 = .ok (.ireturn, 1) := by decide +kernel
theorem dL_law_675 : decode cL_law 675 = .ok (.aload_n 1, 1) := by decide +kernel
theorem dL_law_676 : decode cL_law 676 = .ok (.aload_n 0, 1) := by decide +kernel
theorem dL_law_677 : decode cL_law 677 = .ok (.iload 4, 2) := by decide +kernel
theorem dL_law_679 : decode cL_law 679 = .ok (.iconst 1, 1) := by decide +kernel
theorem dL_law_680 : decode cL_law 680 = .ok (.iadd, 1) := by decide +kernel
theorem dL_law_681 : decode cL_law 681 = .ok (.iaload, 1) := by decide +kernel
theorem dL_law_682 : decode cL_law 682 = .ok (.aload_n 3, 1) := by decide +kernel
theorem dL_law_683 : decode cL_law 683 = .ok (.invokestatic 106, 3) := by decide +kernel
theorem dL_law_686 : decode cL_law 686 = .ok (.istore 5, 2) := by decide +kernel
theorem dL_law_688 : decode cL_law 688 = .ok (.aload_n 2, 1) := by decide +kernel
theorem dL_law_689 : decode cL_law 689 = .ok (.aload_n 0, 1) := by decide +kernel
theorem dL_law_690 : decode cL_law 690 = .ok (.iload 4, 2) := by decide +kernel
theorem dL_law_692 : decode cL_law 692 = .ok (.iconst 1, 1) := by decide +kernel
theorem dL_law_693 : decode cL_law 693 = .ok (.iadd, 1) := by decide +kernel
theorem dL_law_694 : decode cL_law 694 = .ok (.iaload, 1) := by decide +kernel
theorem dL_law_695 : decode cL_law 695 = .ok (.invokevirtual 109, 3) := by decide +kernel
theorem dL_law_698 : decode cL_law 698 = .ok (.istore 6, 2) := by decide +kernel
theorem dL_law_700 : decode cL_law 700 = .ok (.aload_n 2, 1) := by decide +kernel
theorem dL_law_701 : decode cL_law 701 = .ok (.invokevirtual 76, 3) := by decide +kernel
theorem dL_law_704 : decode cL_law 704 = .ok (.iload 5, 2) := by decide +kernel
theorem dL_law_706 : decode cL_law 706 = .ok (.if_icmp .eq 5, 3) := by decide +kernel
theorem dL_law_709 : decode cL_law 709 = .ok (.iconst 0, 1) := by decide +kernel
theorem dL_law_710 : decode cL_law 710 = .ok (.ireturn, 1) := by decide +kernel
theorem dL_law_711 : decode cL_law 711 = .ok (.iload 5, 2) := by decide +kernel
theorem dL_law_713 : decode cL_law 713 = .ok (.ifCond .ne 15, 3) := by decide +kernel
theorem dL_law_716 : decode cL_law 716 = .ok (.aload_n 3, 1) := by decide +kernel
theorem dL_law_717 : decode cL_law 717 = .ok (.iconst 0, 1) := by decide +kernel
theorem dL_law_718 : decode cL_law 718 = .ok (.laload, 1) := by decide +kernel
theorem dL_law_719 : decode cL_law 719 = .ok (.iload 6, 2) := by decide +kernel
theorem dL_law_721 : decode cL_law 721 = .ok (.i2l, 1) := by decide +kernel
theorem dL_law_722 : decode cL_law 722 = .ok (.lcmp, 1) := by decide +kernel
theorem dL_law_723 : decode cL_law 723 = .ok (.ifCond .eq 5, 3) := by decide +kernel
theorem dL_law_726 : decode cL_law 726 = .ok (.iconst 0, 1) := by decide +kernel
theorem dL_law_727 : decode cL_law 727 = .ok (.ireturn, 1) := by decide +kernel
theorem dL_law_728 : decode cL_law 728 = .ok (.goto 490, 3) := by decide +kernel
theorem dL_law_731 : decode cL_law 731 = .ok (.aload_n 1, 1) := by decide +kernel
theorem dL_law_732 : decode cL_law 732 = .ok (.aload_n 0, 1) := by decide +kernel
theorem dL_law_733 : decode cL_law 733 = .ok (.iload 4, 2) := by decide +kernel
theorem dL_law_735 : decode cL_law 735 = .ok (.iconst 1, 1) := by decide +kernel
theorem dL_law_736 : decode cL_law 736 = .ok (.iadd, 1) := by decide +kernel
theorem dL_law_737 : decode cL_law 737 = .ok (.iaload, 1) := by decide +kernel
theorem dL_law_738 : decode cL_law 738 = .ok (.aload_n 0, 1) := by decide +kernel
theorem dL_law_739 : decode cL_law 739 = .ok (.iload 4, 2) := by decide +kernel
theorem dL_law_741 : decode cL_law 741 = .ok (.iconst 2, 1) := by decide +kernel
theorem dL_law_742 : decode cL_law 742 = .ok (.iadd, 1) := by decide +kernel
theorem dL_law_743 : decode cL_law 743 = .ok (.iaload, 1) := by decide +kernel
theorem dL_law_744 : decode cL_law 744 = .ok (.aload_n 0, 1) := by decide +kernel
theorem dL_law_745 : decode cL_law 745 = .ok (.iload 4, 2) := by decide +kernel
theorem dL_law_747 : decode cL_law 747 = .ok (.iconst 3, 1) := by decide +kernel
theorem dL_law_748 : decode cL_law 748 = .ok (.iadd, 1) := by decide +kernel
theorem dL_law_749 : decode cL_law 749 = .ok (.iaload, 1) := by decide +kernel
theorem dL_law_750 : decode cL_law 750 = .ok (.aload_n 0, 1) := by decide +kernel
theorem dL_law_751 : decode cL_law 751 = .ok (.iload 4, 2) := by decide +kernel
theorem dL_law_753 : decode cL_law 753 = .ok (.iconst 4, 1) := by decide +kernel
theorem dL_law_754 : decode cL_law 754 = .ok (.iadd, 1) := by decide +kernel
theorem dL_law_755 : decode cL_law 755 = .ok (.iaload, 1) := by decide +kernel
theorem dL_law_756 : decode cL_law 756 = .ok (.aload_n 0, 1) := by decide +kernel
theorem dL_law_757 : decode cL_law 757 = .ok (.iload 4, 2) := by decide +kernel
theorem dL_law_759 : decode cL_law 759 = .ok (.iconst 5, 1) := by decide +kernel
theorem dL_law_760 : decode cL_law 760 = .ok (.iadd, 1) := by decide +kernel
theorem dL_law_761 : decode cL_law 761 = .ok (.iaload, 1) := by decide +kernel
theorem dL_law_762 : decode cL_law 762 = .ok (.aload_n 3, 1) := by decide +kernel
theorem dL_law_763 : decode cL_law 763 = .ok (.invokestatic 110, 3) := by decide +kernel
theorem dL_law_766 : decode cL_law 766 = .ok (.istore 5, 2) := by decide +kernel
theorem dL_law_768 : decode cL_law 768 = .ok (.aload_n 2, 1) := by decide +kernel
theorem dL_law_769 : decode cL_law 769 = .ok (.aload_n 0, 1) := by decide +kernel
theorem dL_law_770 : decode cL_law 770 = .ok (.iload 4, 2) := by decide +kernel
theorem dL_law_772 : decode cL_law 772 = .ok (.iconst 1, 1) := by decide +kernel
theorem dL_law_773 : decode cL_law 773 = .ok (.iadd, 1) := by decide +kernel
theorem dL_law_774 : decode cL_law 774 = .ok (.iaload, 1) := by decide +kernel
theorem dL_law_775 : decode cL_law 775 = .ok (.aload_n 0, 1) := by decide +kernel
theorem dL_law_776 : decode cL_law 776 = .ok (.iload 4, 2) := by decide +kernel
theorem dL_law_778 : decode cL_law 778 = .ok (.iconst 2, 1) := by decide +kernel
theorem dL_law_779 : decode cL_law 779 = .ok (.iadd, 1) := by decide +kernel
theorem dL_law_780 : decode cL_law 780 = .ok (.iaload, 1) := by decide +kernel
theorem dL_law_781 : decode cL_law 781 = .ok (.aload_n 0, 1) := by decide +kernel
theorem dL_law_782 : decode cL_law 782 = .ok (.iload 4, 2) := by decide +kernel
theorem dL_law_784 : decode cL_law 784 = .ok (.iconst 3, 1) := by decide +kernel
theorem dL_law_785 : decode cL_law 785 = .ok (.iadd, 1) := by decide +kernel
theorem dL_law_786 : decode cL_law 786 = .ok (.iaload, 1) := by decide +kernel
theorem dL_law_787 : decode cL_law 787 = .ok (.aload_n 0, 1) := by decide +kernel
theorem dL_law_788 : decode cL_law 788 = .ok (.iload 4, 2) := by decide +kernel
theorem dL_law_790 : decode cL_law 790 = .ok (.iconst 4, 1) := by decide +kernel
theorem dL_law_791 : decode cL_law 791 = .ok (.iadd, 1) := by decide +kernel
theorem dL_law_792 : decode cL_law 792 = .ok (.iaload, 1) := by decide +kernel
theorem dL_law_793 : decode cL_law 793 = .ok (.aload_n 0, 1) := by decide +kernel
theorem dL_law_794 : decode cL_law 794 = .ok (.iload 4, 2) := by decide +kernel
theorem dL_law_796 : decode cL_law 796 = .ok (.iconst 5, 1) := by decide +kernel
theorem dL_law_797 : decode cL_law 797 = .ok (.iadd, 1) := by decide +kernel
theorem dL_law_798 : decode cL_law 798 = .ok (.iaload, 1) := by decide +kernel
theorem dL_law_799 : decode cL_law 799 = .ok (.invokevirtual 113, 3) := by decide +kernel
theorem dL_law_802 : decode cL_law 802 = .ok (.istore 6, 2) := by decide +kernel
theorem dL_law_804 : decode cL_law 804 = .ok (.aload_n 2, 1) := by decide +kernel
theorem dL_law_805 : decode cL_law 805 = .ok (.invokevirtual 76, 3) := by decide +kernel
theorem dL_law_808 : decode cL_law 808 = .ok (.iload 5, 2) := by decide +kernel
theorem dL_law_810 : decode cL_law 810 = .ok (.if_icmp .eq 5, 3) := by decide +kernel
theorem dL_law_813 : decode cL_law 813 = .ok (.iconst 0, 1) := by decide +kernel
theorem dL_law_814 : decode cL_law 814 = .ok (.ireturn, 1) := by decide +kernel
theorem dL_law_815 : decode cL_law 815 = .ok (.iload 5, 2) := by decide +kernel
theorem dL_law_817 : decode cL_law 817 = .ok (.ifCond .ne 15, 3) := by decide +kernel
theorem dL_law_820 : decode cL_law 820 = .ok (.aload_n 3, 1) := by decide +kernel
theorem dL_law_821 : decode cL_law 821 = .ok (.iconst 0, 1) := by decide +kernel
theorem dL_law_822 : decode cL_law 822 = .ok (.laload, 1) := by decide +kernel
theorem dL_law_823 : decode cL_law 823 = .ok (.iload 6, 2) := by decide +kernel
theorem dL_law_825 : decode cL_law 825 = .ok (.i2l, 1) := by decide +kernel
theorem dL_law_826 : decode cL_law 826 = .ok (.lcmp, 1) := by decide +kernel
theorem dL_law_827 : decode cL_law 827 = .ok (.ifCond .eq 5, 3) := by decide +kernel
theorem dL_law_830 : decode cL_law 830 = .ok (.iconst 0, 1) := by decide +kernel
end
section
theorem dL_law_831 : decode cL_law 831 = .ok (.ireturn, 1) := by decide +kernel
theorem dL_law_832 : decode cL_law 832 = .ok (.goto 386, 3) := by decide +kernel
theorem dL_law_835 : decode cL_law 835 = .ok (.aload_n 1, 1) := by decide +kernel
theorem dL_law_836 : decode cL_law 836 = .ok (.aload_n 0, 1) := by decide +kernel
theorem dL_law_837 : decode cL_law 837 = .ok (.iload 4, 2) := by decide +kernel
theorem dL_law_839 : decode cL_law 839 = .ok (.iconst 1, 1) := by decide +kernel
theorem dL_law_840 : decode cL_law 840 = .ok (.iadd, 1) := by decide +kernel
theorem dL_law_841 : decode cL_law 841 = .ok (.iaload, 1) := by decide +kernel
theorem dL_law_842 : decode cL_law 842 = .ok (.aload_n 3, 1) := by decide +kernel
theorem dL_law_843 : decode cL_law 843 = .ok (.invokestatic 114, 3) := by decide +kernel
theorem dL_law_846 : decode cL_law 846 = .ok (.istore 5, 2) := by decide +kernel
theorem dL_law_848 : decode cL_law 848 = .ok (.aload_n 2, 1) := by decide +kernel
theorem dL_law_849 : decode cL_law 849 = .ok (.aload_n 0, 1) := by decide +kernel
theorem dL_law_850 : decode cL_law 850 = .ok (.iload 4, 2) := by decide +kernel
theorem dL_law_852 : decode cL_law 852 = .ok (.iconst 1, 1) := by decide +kernel
theorem dL_law_853 : decode cL_law 853 = .ok (.iadd, 1) := by decide +kernel
theorem dL_law_854 : decode cL_law 854 = .ok (.iaload, 1) := by decide +kernel
theorem dL_law_855 : decode cL_law 855 = .ok (.invokevirtual 116, 3) := by decide +kernel
theorem dL_law_858 : decode cL_law 858 = .ok (.istore 6, 2) := by decide +kernel
theorem dL_law_860 : decode cL_law 860 = .ok (.aload_n 2, 1) := by decide +kernel
theorem dL_law_861 : decode cL_law 861 = .ok (.invokevirtual 76, 3) := by decide +kernel
theorem dL_law_864 : decode cL_law 864 = .ok (.iload 5, 2) := by decide +kernel
theorem dL_law_866 : decode cL_law 866 = .ok (.if_icmp .eq 5, 3) := by decide +kernel
theorem dL_law_869 : decode cL_law 869 = .ok (.iconst 0, 1) := by decide +kernel
theorem dL_law_870 : decode cL_law 870 = .ok (.ireturn, 1) := by decide +kernel
theorem dL_law_871 : decode cL_law 871 = .ok (.iload 5, 2) := by decide +kernel
theorem dL_law_873 : decode cL_law 873 = .ok (.ifCond .ne 15, 3) := by decide +kernel
theorem dL_law_876 : decode cL_law 876 = .ok (.aload_n 3, 1) := by decide +kernel
theorem dL_law_877 : decode cL_law 877 = .ok (.iconst 0, 1) := by decide +kernel
theorem dL_law_878 : decode cL_law 878 = .ok (.laload, 1) := by decide +kernel
theorem dL_law_879 : decode cL_law 879 = .ok (.iload 6, 2) := by decide +kernel
theorem dL_law_881 : decode cL_law 881 = .ok (.i2l, 1) := by decide +kernel
theorem dL_law_882 : decode cL_law 882 = .ok (.lcmp, 1) := by decide +kernel
theorem dL_law_883 : decode cL_law 883 = .ok (.ifCond .eq 5, 3) := by decide +kernel
theorem dL_law_886 : decode cL_law 886 = .ok (.iconst 0, 1) := by decide +kernel
theorem dL_law_887 : decode cL_law 887 = .ok (.ireturn, 1) := by decide +kernel
theorem dL_law_888 : decode cL_law 888 = .ok (.goto 330, 3) := by decide +kernel
theorem dL_law_891 : decode cL_law 891 = .ok (.aload_n 1, 1) := by decide +kernel
theorem dL_law_892 : decode cL_law 892 = .ok (.aload_n 0, 1) := by decide +kernel
theorem dL_law_893 : decode cL_law 893 = .ok (.iload 4, 2) := by decide +kernel
theorem dL_law_895 : decode cL_law 895 = .ok (.iconst 1, 1) := by decide +kernel
theorem dL_law_896 : decode cL_law 896 = .ok (.iadd, 1) := by decide +kernel
theorem dL_law_897 : decode cL_law 897 = .ok (.iaload, 1) := by decide +kernel
theorem dL_law_898 : decode cL_law 898 = .ok (.aload_n 0, 1) := by decide +kernel
theorem dL_law_899 : decode cL_law 899 = .ok (.iload 4, 2) := by decide +kernel
theorem dL_law_901 : decode cL_law 901 = .ok (.iconst 2, 1) := by decide +kernel
theorem dL_law_902 : decode cL_law 902 = .ok (.iadd, 1) := by decide +kernel
theorem dL_law_903 : decode cL_law 903 = .ok (.iaload, 1) := by decide +kernel
theorem dL_law_904 : decode cL_law 904 = .ok (.aload_n 0, 1) := by decide +kernel
theorem dL_law_905 : decode cL_law 905 = .ok (.iload 4, 2) := by decide +kernel
theorem dL_law_907 : decode cL_law 907 = .ok (.iconst 3, 1) := by decide +kernel
theorem dL_law_908 : decode cL_law 908 = .ok (.iadd, 1) := by decide +kernel
theorem dL_law_909 : decode cL_law 909 = .ok (.iaload, 1) := by decide +kernel
theorem dL_law_910 : decode cL_law 910 = .ok (.aload_n 3, 1) := by decide +kernel
theorem dL_law_911 : decode cL_law 911 = .ok (.invokestatic 117, 3) := by decide +kernel
theorem dL_law_914 : decode cL_law 914 = .ok (.istore 5, 2) := by decide +kernel
theorem dL_law_916 : decode cL_law 916 = .ok (.aload_n 2, 1) := by decide +kernel
theorem dL_law_917 : decode cL_law 917 = .ok (.aload_n 0, 1) := by decide +kernel
theorem dL_law_918 : decode cL_law 918 = .ok (.iload 4, 2) := by decide +kernel
theorem dL_law_920 : decode cL_law 920 = .ok (.iconst 1, 1) := by decide +kernel
theorem dL_law_921 : decode cL_law 921 = .ok (.iadd, 1) := by decide +kernel
theorem dL_law_922 : decode cL_law 922 = .ok (.iaload, 1) := by decide +kernel
theorem dL_law_923 : decode cL_law 923 = .ok (.aload_n 0, 1) := by decide +kernel
theorem dL_law_924 : decode cL_law 924 = .ok (.iload 4, 2) := by decide +kernel
theorem dL_law_926 : decode cL_law 926 = .ok (.iconst 2, 1) := by decide +kernel
theorem dL_law_927 : decode cL_law 927 = .ok (.iadd, 1) := by decide +kernel
theorem dL_law_928 : decode cL_law 928 = .ok (.iaload, 1) := by decide +kernel
theorem dL_law_929 : decode cL_law 929 = .ok (.aload_n 0, 1) := by decide +kernel
theorem dL_law_930 : decode cL_law 930 = .ok (.iload 4, 2) := by decide +kernel
theorem dL_law_932 : decode cL_law 932 = .ok (.iconst 3, 1) := by decide +kernel
theorem dL_law_933 : decode cL_law 933 = .ok (.iadd, 1) := by decide +kernel
theorem dL_law_934 : decode cL_law 934 = .ok (.iaload, 1) := by decide +kernel
theorem dL_law_935 : decode cL_law 935 = .ok (.invokevirtual 119, 3) := by decide +kernel
theorem dL_law_938 : decode cL_law 938 = .ok (.istore 6, 2) := by decide +kernel
theorem dL_law_940 : decode cL_law 940 = .ok (.aload_n 2, 1) := by decide +kernel
theorem dL_law_941 : decode cL_law 941 = .ok (.invokevirtual 76, 3) := by decide +kernel
theorem dL_law_944 : decode cL_law 944 = .ok (.iload 5, 2) := by decide +kernel
theorem dL_law_946 : decode cL_law 946 = .ok (.if_icmp .eq 5, 3) := by decide +kernel
theorem dL_law_949 : decode cL_law 949 = .ok (.iconst 0, 1) := by decide +kernel
theorem dL_law_950 : decode cL_law 950 = .ok (.ireturn, 1) := by decide +kernel
theorem dL_law_951 : decode cL_law 951 = .ok (.iload 5, 2) := by decide +kernel
theorem dL_law_953 : decode cL_law 953 = .ok (.ifCond .ne 15, 3) := by decide +kernel
theorem dL_law_956 : decode cL_law 956 = .ok (.aload_n 3, 1) := by decide +kernel
theorem dL_law_957 : decode cL_law 957 = .ok (.iconst 0, 1) := by decide +kernel
theorem dL_law_958 : decode cL_law 958 = .ok (.laload, 1) := by decide +kernel
theorem dL_law_959 : decode cL_law 959 = .ok (.iload 6, 2) := by decide +kernel
theorem dL_law_961 : decode cL_law 961 = .ok (.i2l, 1) := by decide +kernel
theorem dL_law_962 : decode cL_law 962 = .ok (.lcmp, 1) := by decide +kernel
theorem dL_law_963 : decode cL_law 963 = .ok (.ifCond .eq 5, 3) := by decide +kernel
theorem dL_law_966 : decode cL_law 966 = .ok (.iconst 0, 1) := by decide +kernel
theorem dL_law_967 : decode cL_law 967 = .ok (.ireturn, 1) := by decide +kernel
theorem dL_law_968 : decode cL_law 968 = .ok (.goto 250, 3) := by decide +kernel
theorem dL_law_971 : decode cL_law 971 = .ok (.aload_n 1, 1) := by decide +kernel
theorem dL_law_972 : decode cL_law 972 = .ok (.aload_n 0, 1) := by decide +kernel
theorem dL_law_973 : decode cL_law 973 = .ok (.iload 4, 2) := by decide +kernel
theorem dL_law_975 : decode cL_law 975 = .ok (.iconst 1, 1) := by decide +kernel
theorem dL_law_976 : decode cL_law 976 = .ok (.iadd, 1) := by decide +kernel
theorem dL_law_977 : decode cL_law 977 = .ok (.iaload, 1) := by decide +kernel
theorem dL_law_978 : decode cL_law 978 = .ok (.aload_n 0, 1) := by decide +kernel
theorem dL_law_979 : decode cL_law 979 = .ok (.iload 4, 2) := by decide +kernel
theorem dL_law_981 : decode cL_law 981 = .ok (.iconst 2, 1) := by decide +kernel
theorem dL_law_982 : decode cL_law 982 = .ok (.iadd, 1) := by decide +kernel
theorem dL_law_983 : decode cL_law 983 = .ok (.iaload, 1) := by decide +kernel
theorem dL_law_984 : decode cL_law 984 = .ok (.aload_n 3, 1) := by decide +kernel
theorem dL_law_985 : decode cL_law 985 = .ok (.invokestatic 120, 3) := by decide +kernel
theorem dL_law_988 : decode cL_law 988 = .ok (.istore 5, 2) := by decide +kernel
theorem dL_law_990 : decode cL_law 990 = .ok (.aload_n 2, 1) := by decide +kernel
theorem dL_law_991 : decode cL_law 991 = .ok (.aload_n 0, 1) := by decide +kernel
theorem dL_law_992 : decode cL_law 992 = .ok (.iload 4, 2) := by decide +kernel
theorem dL_law_994 : decode cL_law 994 = .ok (.iconst 1, 1) := by decide +kernel
theorem dL_law_995 : decode cL_law 995 = .ok (.iadd, 1) := by decide +kernel
theorem dL_law_996 : decode cL_law 996 = .ok (.iaload, 1) := by decide +kernel
theorem dL_law_997 : decode cL_law 997 = .ok (.aload_n 0, 1) := by decide +kernel
theorem dL_law_998 : decode cL_law 998 = .ok (.iload 4, 2) := by decide +kernel
theorem dL_law_1000 : decode cL_law 1000 = .ok (.iconst 2, 1) := by decide +kernel
theorem dL_law_1001 : decode cL_law 1001 = .ok (.iadd, 1) := by decide +kernel
theorem dL_law_1002 : decode cL_law 1002 = .ok (.iaload, 1) := by decide +kernel
theorem dL_law_1003 : decode cL_law 1003 = .ok (.invokevirtual 123, 3) := by decide +kernel
theorem dL_law_1006 : decode cL_law 1006 = .ok (.istore 6, 2) := by decide +kernel
theorem dL_law_1008 : decode cL_law 1008 = .ok (.aload_n 2, 1) := by decide +kernel
theorem dL_law_1009 : decode cL_law 1009 = .ok (.invokevirtual 76, 3) := by decide +kernel
theorem dL_law_1012 : decode cL_law 1012 = .ok (.iload 5, 2) := by decide +kernel
theorem dL_law_1014 : decode cL_law 1014 = .ok (.if_icmp .eq 5, 3) := by decide +kernel
theorem dL_law_1017 : decode cL_law 1017 = .ok (.iconst 0, 1) := by decide +kernel
theorem dL_law_1018 : decode cL_law 1018 = .ok (.ireturn, 1) := by decide +kernel
theorem dL_law_1019 : decode cL_law 1019 = .ok (.iload 5, 2) := by decide +kernel
theorem dL_law_1021 : decode cL_law 1021 = .ok (.ifCond .ne 15, 3) := by decide +kernel
theorem dL_law_1024 : decode cL_law 1024 = .ok (.aload_n 3, 1) := by decide +kernel
theorem dL_law_1025 : decode cL_law 1025 = .ok (.iconst 0, 1) := by decide +kernel
theorem dL_law_1026 : decode cL_law 1026 = .ok (.laload, 1) := by decide +kernel
theorem dL_law_1027 : decode cL_law 1027 = .ok (.iload 6, 2) := by decide +kernel
theorem dL_law_1029 : decode cL_law 1029 = .ok (.i2l, 1) := by decide +kernel
theorem dL_law_1030 : decode cL_law 1030 = .ok (.lcmp, 1) := by decide +kernel
theorem dL_law_1031 : decode cL_law 1031 = .ok (.ifCond .eq 5, 3) := by decide +kernel
theorem dL_law_1034 : decode cL_law 1034 = .ok (.iconst 0, 1) := by decide +kernel
theorem dL_law_1035 : decode cL_law 1035 = .ok (.ireturn, 1) := by decide +kernel
theorem dL_law_1036 : decode cL_law 1036 = .ok (.goto 182, 3) := by decide +kernel
theorem dL_law_1039 : decode cL_law 1039 = .ok (.aload_n 1, 1) := by decide +kernel
theorem dL_law_1040 : decode cL_law 1040 = .ok (.aload_n 0, 1) := by decide +kernel
theorem dL_law_1041 : decode cL_law 1041 = .ok (.iload 4, 2) := by decide +kernel
theorem dL_law_1043 : decode cL_law 1043 = .ok (.iconst 1, 1) := by decide +kernel
theorem dL_law_1044 : decode cL_law 1044 = .ok (.iadd, 1) := by decide +kernel
theorem dL_law_1045 : decode cL_law 1045 = .ok (.iaload, 1) := by decide +kernel
theorem dL_law_1046 : decode cL_law 1046 = .ok (.aload_n 0, 1) := by decide +kernel
theorem dL_law_1047 : decode cL_law 1047 = .ok (.iload 4, 2) := by decide +kernel
theorem dL_law_1049 : decode cL_law 1049 = .ok (.iconst 2, 1) := by decide +kernel
theorem dL_law_1050 : decode cL_law 1050 = .ok (.iadd, 1) := by decide +kernel
theorem dL_law_1051 : decode cL_law 1051 = .ok (.iaload, 1) := by decide +kernel
theorem dL_law_1052 : decode cL_law 1052 = .ok (.aload_n 3, 1) := by decide +kernel
theorem dL_law_1053 : decode cL_law 1053 = .ok (.invokestatic 124, 3) := by decide +kernel
theorem dL_law_1056 : decode cL_law 1056 = .ok (.istore 5, 2) := by decide +kernel
theorem dL_law_1058 : decode cL_law 1058 = .ok (.aload_n 2, 1) := by decide +kernel
theorem dL_law_1059 : decode cL_law 1059 = .ok (.aload_n 0, 1) := by decide +kernel
theorem dL_law_1060 : decode cL_law 1060 = .ok (.iload 4, 2) := by decide +kernel
theorem dL_law_1062 : decode cL_law 1062 = .ok (.iconst 1, 1) := by decide +kernel
theorem dL_law_1063 : decode cL_law 1063 = .ok (.iadd, 1) := by decide +kernel
theorem dL_law_1064 : decode cL_law 1064 = .ok (.iaload, 1) := by decide +kernel
theorem dL_law_1065 : decode cL_law 1065 = .ok (.aload_n 0, 1) := by decide +kernel
theorem dL_law_1066 : decode cL_law 1066 = .ok (.iload 4, 2) := by decide +kernel
theorem dL_law_1068 : decode cL_law 1068 = .ok (.iconst 2, 1) := by decide +kernel
theorem dL_law_1069 : decode cL_law 1069 = .ok (.iadd, 1) := by decide +kernel
theorem dL_law_1070 : decode cL_law 1070 = .ok (.iaload, 1) := by decide +kernel
theorem dL_law_1071 : decode cL_law 1071 = .ok (.invokevirtual 126, 3) := by decide +kernel
theorem dL_law_1074 : decode cL_law 1074 = .ok (.lstore 6, 2) := by decide +kernel
theorem dL_law_1076 : decode cL_law 1076 = .ok (.aload_n 2, 1) := by decide +kernel
theorem dL_law_1077 : decode cL_law 1077 = .ok (.invokevirtual 76, 3) := by decide +kernel
theorem dL_law_1080 : decode cL_law 1080 = .ok (.iload 5, 2) := by decide +kernel
theorem dL_law_1082 : decode cL_law 1082 = .ok (.if_icmp .eq 5, 3) := by decide +kernel
theorem dL_law_1085 : decode cL_law 1085 = .ok (.iconst 0, 1) := by decide +kernel
theorem dL_law_1086 : decode cL_law 1086 = .ok (.ireturn, 1) := by decide +kernel
theorem dL_law_1087 : decode cL_law 1087 = .ok (.iload 5, 2) := by decide +kernel
theorem dL_law_1089 : decode cL_law 1089 = .ok (.ifCond .ne 14, 3) := by decide +kernel
theorem dL_law_1092 : decode cL_law 1092 = .ok (.aload_n 3, 1) := by decide +kernel
theorem dL_law_1093 : decode cL_law 1093 = .ok (.iconst 0, 1) := by decide +kernel
theorem dL_law_1094 : decode cL_law 1094 = .ok (.laload, 1) := by decide +kernel
theorem dL_law_1095 : decode cL_law 1095 = .ok (.lload 6, 2) := by decide +kernel
theorem dL_law_1097 : decode cL_law 1097 = .ok (.lcmp, 1) := by decide +kernel
theorem dL_law_1098 : decode cL_law 1098 = .ok (.ifCond .eq 5, 3) := by decide +kernel
theorem dL_law_1101 : decode cL_law 1101 = .ok (.iconst 0, 1) := by decide +kernel
theorem dL_law_1102 : decode cL_law 1102 = .ok (.ireturn, 1) := by decide +kernel
theorem dL_law_1103 : decode cL_law 1103 = .ok (.goto 115, 3) := by decide +kernel
theorem dL_law_1106 : decode cL_law 1106 = .ok (.aload_n 1, 1) := by decide +kernel
theorem dL_law_1107 : decode cL_law 1107 = .ok (.aload_n 0, 1) := by decide +kernel
theorem dL_law_1108 : decode cL_law 1108 = .ok (.iload 4, 2) := by decide +kernel
theorem dL_law_1110 : decode cL_law 1110 = .ok (.iconst 1, 1) := by decide +kernel
theorem dL_law_1111 : decode cL_law 1111 = .ok (.iadd, 1) := by decide +kernel
theorem dL_law_1112 : decode cL_law 1112 = .ok (.iaload, 1) := by decide +kernel
theorem dL_law_1113 : decode cL_law 1113 = .ok (.aload_n 3, 1) := by decide +kernel
theorem dL_law_1114 : decode cL_law 1114 = .ok (.invokestatic 127, 3) := by decide +kernel
theorem dL_law_1117 : decode cL_law 1117 = .ok (.istore 5, 2) := by decide +kernel
theorem dL_law_1119 : decode cL_law 1119 = .ok (.aload_n 2, 1) := by decide +kernel
theorem dL_law_1120 : decode cL_law 1120 = .ok (.aload_n 0, 1) := by decide +kernel
theorem dL_law_1121 : decode cL_law 1121 = .ok (.iload 4, 2) := by decide +kernel
theorem dL_law_1123 : decode cL_law 1123 = .ok (.iconst 1, 1) := by decide +kernel
theorem dL_law_1124 : decode cL_law 1124 = .ok (.iadd, 1) := by decide +kernel
theorem dL_law_1125 : decode cL_law 1125 = .ok (.iaload, 1) := by decide +kernel
theorem dL_law_1126 : decode cL_law 1126 = .ok (.invokevirtual 129, 3) := by decide +kernel
theorem dL_law_1129 : decode cL_law 1129 = .ok (.istore 6, 2) := by decide +kernel
theorem dL_law_1131 : decode cL_law 1131 = .ok (.aload_n 2, 1) := by decide +kernel
theorem dL_law_1132 : decode cL_law 1132 = .ok (.invokevirtual 76, 3) := by decide +kernel
theorem dL_law_1135 : decode cL_law 1135 = .ok (.iload 5, 2) := by decide +kernel
theorem dL_law_1137 : decode cL_law 1137 = .ok (.if_icmp .eq 5, 3) := by decide +kernel
theorem dL_law_1140 : decode cL_law 1140 = .ok (.iconst 0, 1) := by decide +kernel
theorem dL_law_1141 : decode cL_law 1141 = .ok (.ireturn, 1) := by decide +kernel
theorem dL_law_1142 : decode cL_law 1142 = .ok (.iload 5, 2) := by decide +kernel
theorem dL_law_1144 : decode cL_law 1144 = .ok (.ifCond .ne 15, 3) := by decide +kernel
theorem dL_law_1147 : decode cL_law 1147 = .ok (.aload_n 3, 1) := by decide +kernel
theorem dL_law_1148 : decode cL_law 1148 = .ok (.iconst 0, 1) := by decide +kernel
theorem dL_law_1149 : decode cL_law 1149 = .ok (.laload, 1) := by decide +kernel
theorem dL_law_1150 : decode cL_law 1150 = .ok (.iload 6, 2) := by decide +kernel
theorem dL_law_1152 : decode cL_law 1152 = .ok (.i2l, 1) := by decide +kernel
theorem dL_law_1153 : decode cL_law 1153 = .ok (.lcmp, 1) := by decide +kernel
theorem dL_law_1154 : decode cL_law 1154 = .ok (.ifCond .eq 5, 3) := by decide +kernel
theorem dL_law_1157 : decode cL_law 1157 = .ok (.iconst 0, 1) := by decide +kernel
theorem dL_law_1158 : decode cL_law 1158 = .ok (.ireturn, 1) := by decide +kernel
theorem dL_law_1159 : decode cL_law 1159 = .ok (.goto 59, 3) := by decide +kernel
theorem dL_law_1162 : decode cL_law 1162 = .ok (.aload_n 1, 1) := by decide +kernel
theorem dL_law_1163 : decode cL_law 1163 = .ok (.aload_n 0, 1) := by decide +kernel
theorem dL_law_1164 : decode cL_law 1164 = .ok (.iload 4, 2) := by decide +kernel
theorem dL_law_1166 : decode cL_law 1166 = .ok (.iconst 1, 1) := by decide +kernel
theorem dL_law_1167 : decode cL_law 1167 = .ok (.iadd, 1) := by decide +kernel
theorem dL_law_1168 : decode cL_law 1168 = .ok (.iaload, 1) := by decide +kernel
theorem dL_law_1169 : decode cL_law 1169 = .ok (.aload_n 3, 1) := by decide +kernel
theorem dL_law_1170 : decode cL_law 1170 = .ok (.invokestatic 130, 3) := by decide +kernel
theorem dL_law_1173 : decode cL_law 1173 = .ok (.istore 5, 2) := by decide +kernel
theorem dL_law_1175 : decode cL_law 1175 = .ok (.aload_n 2, 1) := by decide +kernel
theorem dL_law_1176 : decode cL_law 1176 = .ok (.aload_n 0, 1) := by decide +kernel
theorem dL_law_1177 : decode cL_law 1177 = .ok (.iload 4, 2) := by decide +kernel
theorem dL_law_1179 : decode cL_law 1179 = .ok (.iconst 1, 1) := by decide +kernel
theorem dL_law_1180 : decode cL_law 1180 = .ok (.iadd, 1) := by decide +kernel
theorem dL_law_1181 : decode cL_law 1181 = .ok (.iaload, 1) := by decide +kernel
theorem dL_law_1182 : decode cL_law 1182 = .ok (.invokevirtual 132, 3) := by decide +kernel
theorem dL_law_1185 : decode cL_law 1185 = .ok (.istore 6, 2) := by decide +kernel
theorem dL_law_1187 : decode cL_law 1187 = .ok (.aload_n 2, 1) := by decide +kernel
theorem dL_law_1188 : decode cL_law 1188 = .ok (.invokevirtual 76, 3) := by decide +kernel
theorem dL_law_1191 : decode cL_law 1191 = .ok (.iload 5, 2) := by decide +kernel
theorem dL_law_1193 : decode cL_law 1193 = .ok (.if_icmp .eq 5, 3) := by decide +kernel
theorem dL_law_1196 : decode cL_law 1196 = .ok (.iconst 0, 1) := by decide +kernel
theorem dL_law_1197 : decode cL_law 1197 = .ok (.ireturn, 1) := by decide +kernel
theorem dL_law_1198 : decode cL_law 1198 = .ok (.iload 5, 2) := by decide +kernel
theorem dL_law_1200 : decode cL_law 1200 = .ok (.ifCond .ne 15, 3) := by decide +kernel
theorem dL_law_1203 : decode cL_law 1203 = .ok (.aload_n 3, 1) := by decide +kernel
theorem dL_law_1204 : decode cL_law 1204 = .ok (.iconst 0, 1) := by decide +kernel
theorem dL_law_1205 : decode cL_law 1205 = .ok (.laload, 1) := by decide +kernel
theorem dL_law_1206 : decode cL_law 1206 = .ok (.iload 6, 2) := by decide +kernel
theorem dL_law_1208 : decode cL_law 1208 = .ok (.i2l, 1) := by decide +kernel
theorem dL_law_1209 : decode cL_law 1209 = .ok (.lcmp, 1) := by decide +kernel
theorem dL_law_1210 : decode cL_law 1210 = .ok (.ifCond .eq 5, 3) := by decide +kernel
theorem dL_law_1213 : decode cL_law 1213 = .ok (.iconst 0, 1) := by decide +kernel
theorem dL_law_1214 : decode cL_law 1214 = .ok (.ireturn, 1) := by decide +kernel
theorem dL_law_1215 : decode cL_law 1215 = .ok (.goto 3, 3) := by decide +kernel
theorem dL_law_1218 : decode cL_law 1218 = .ok (.iinc 4 7, 3) := by decide +kernel
theorem dL_law_1221 : decode cL_law 1221 = .ok (.goto (-1198), 3) := by decide +kernel
theorem dL_law_1224 : decode cL_law 1224 = .ok (.iconst 1, 1) := by decide +kernel
theorem dL_law_1225 : decode cL_law 1225 = .ok (.ireturn, 1) := by decide +kernel
end
section
/-! THE WORLD OF A METHOD, bundled. g: the classes' numbers, the fields' slots, the array classes, the addresses of what is given -/
abbrev GG : Type := (Nat → ClassId) × (Nat → Nat → Nat) × (Nat → ClassId) × (Nat → Nat)
abbrev gD (g : GG) : va_G := (g.1, g.2.1)
abbrev gC (g : GG) (k : Nat) : ClassId := g.2.2.1 k
abbrev gA (g : GG) (k : Nat) : Nat := g.2.2.2 k
abbrev gT (g : GG) : List (ClassId × FieldType) := [(gC g 0, .int), (gC g 1, .long), (gC g 2, .boolean), (gC g 3, .object "SessionGate$Key"), (gC g 4, .object "SessionGate$Session"), (gC g 5, .object "SessionGate$User")]
abbrev iA (g : GG) (n : Nat) (f : Nat → Int32) : va_E := .inl (gC g 0, n, .inl f)
abbrev jA (g : GG) (n : Nat) (f : Nat → Int64) : va_E := .inl (gC g 1, n, .inr (.inl f))
abbrev zA (g : GG) (n : Nat) (f : Nat → Int32) : va_E := .inl (gC g 2, n, .inl f)
abbrev rA (g : GG) (t n : Nat) (f : Nat → Option Nat) : va_E := .inl (gC g t, n, .inr (.inr (.inr (.inr f))))
/-- the nest's words -/
def nws : List Cond := [.fieldLinkNest RX7 160 "SessionGate$Session" "last" "J" "SessionGate", .fieldLinkNest RX7 163 "SessionGate$Session" "open" "Z" "SessionGate", .fieldLinkNest RX7 167 "SessionGate$Session" "owner" "I" "SessionGate", .fieldLinkNest RX7 201 "SessionGate$Session" "id" "J" "SessionGate", .fieldLinkNest RX7 204 "SessionGate$Session" "began" "J" "SessionGate", .fieldLinkNest RX7 214 "SessionGate$Key" "bytes" "[I" "SessionGate", .fieldLinkNest RX7 221 "SessionGate$Mac" "bytes" "[I" "SessionGate", .fieldLinkNest RX0 33 "SessionGate$Text" "signs" "[I" "SessionGate", .fieldLinkNest RX0 9 "SessionGate$Text" "length" "I" "SessionGate", .fieldLinkNest RX2 23 "SessionGate$Key" "replacedAt" "J" "SessionGate", .fieldLinkNest RX2 27 "SessionGate$Key" "number" "I" "SessionGate", .fieldLinkNest RX7 196 "SessionGate$Text" "signs" "[I" "SessionGate", .fieldLinkNest RX7 181 "SessionGate$Text" "length" "I" "SessionGate", .fieldLinkNest RX7 118 "SessionGate$Key" "number" "I" "SessionGate",
  .methodLinkNest RX7 25 yX5_init "SessionGate", .methodLinkNest RX7 89 yX6_init "SessionGate", .methodLinkNest RX7 9 yX3_init "SessionGate", .methodLinkNest RX7 90 yX4_init "SessionGate", .methodLinkNest RX1 21 yX7_byteOf "SessionGate", .methodLinkNest RX2 22 yX1_init "SessionGate", .methodLinkNest RX3 45 yX7_byteOf "SessionGate", .methodLinkNest RX5 19 yX7_byteOf "SessionGate"]
def nwOk : Cond → Bool
  | .fieldLinkNest _ _ _ _ _ _ => true
  | .methodLinkNest _ _ _ _ => true
  | .declares _ => true
  | .castable _ _ => true
  | _ => false
theorem nw_warm {w : Cond} (h : nwOk w = true) {s U : State} (hW : s.WarmedH U.vm) (hZ : va_Nw w s) : va_Nw w U := by
  cases w <;> first | exact va_Nw.warmF hW hZ | exact va_Nw.warmM hW hZ | exact va_Nw.warmD hW hZ | exact va_Nw.warmC hW hZ | cases h
theorem nw_tab {w : Cond} (h : nwOk w = true) : w.onTables = true := by
  cases w <;> first | rfl | cases h
theorem nws_ok : ∀ w ∈ nws, nwOk w = true := by decide +kernel
def kSTART : List Int32 := [0x6a09e667, 0xbb67ae85, 0x3c6ef372, 0xa54ff53a, 0x510e527f, 0x9b05688c, 0x1f83d9ab, 0x5be0cd19]
def kROUND : List Int32 := [0x428a2f98, 0x71374491, 0xb5c0fbcf, 0xe9b5dba5, 0x3956c25b, 0x59f111f1, 0x923f82a4, 0xab1c5ed5, 0xd807aa98, 0x12835b01, 0x243185be, 0x550c7dc3, 0x72be5d74, 0x80deb1fe, 0x9bdc06a7, 0xc19bf174, 0xe49b69c1, 0xefbe4786, 0x0fc19dc6, 0x240ca1cc, 0x2de92c6f, 0x4a7484aa, 0x5cb0a9dc, 0x76f988da, 0x983e5152, 0xa831c66d, 0xb00327c8, 0xbf597fc7, 0xc6e00bf3, 0xd5a79147, 0x06ca6351, 0x14292967, 0x27b70a85, 0x2e1b2138, 0x4d2c6dfc, 0x53380d13, 0x650a7354, 0x766a0abb, 0x81c2c92e, 0x92722c85, 0xa2bfe8a1, 0xa81a664b, 0xc24b8b70, 0xc76c51a3, 0xd192e819, 0xd6990624, 0xf40e3585, 0x106aa070, 0x19a4c116, 0x1e376c08, 0x2748774c, 0x34b0bcb5, 0x391c0cb3, 0x4ed8aa4a, 0x5b9cca4f, 0x682e6ff3, 0x748f82ee, 0x78a5636f, 0x84c87814, 0x8cc70208, 0x90befffa, 0xa4506ceb, 0xbef9a3f7, 0xc67178f2]
def kALPH : List Int32 := [65, 66, 67, 68, 69, 70, 71, 72, 73, 74, 75, 76, 77, 78, 79, 80, 81, 82, 83, 84, 85, 86, 87, 88, 89, 90, 97, 98, 99, 100, 101, 102, 103, 104, 105, 106, 107, 108, 109, 110, 111, 112, 113, 114, 115, 116, 117, 118, 119, 120, 121, 122, 48, 49, 50, 51, 52, 53, 54, 55, 56, 57, 45, 95]
def kS (j : Nat) : Int32 := kSTART.getD j 0
def kR (j : Nat) : Int32 := kROUND.getD j 0
def kA (j : Nat) : Int32 := kALPH.getD j 0
abbrev fmtD : String := "Ljava/util/function/BiFunction;"
/-- what is given and never written: the nest's words, the tables, the alphabet, the JDK's statics -/
def EnvG (g : GG) (A : Nat → Prop) (U : State) (H : Heap) : Prop :=
  (∀ w ∈ nws, va_Nw w U) ∧
  va_Z "SessionGate$Mac" "START" "[I" (.ref (gA g 0)) A U H ∧ va_T .int (gA g 0) 8 (fun j => .int (kS j)) A U H ∧
  va_Z "SessionGate$Mac" "ROUNDS" "[I" (.ref (gA g 1)) A U H ∧ va_T .int (gA g 1) 64 (fun j => .int (kR j)) A U H ∧
  vk_R "SessionGate$Coder" 17 "ABCDEFGHIJKLMNOPQRSTUVWXYZabcdefghijklmnopqrstuvwxyz0123456789-_" (gA g 2) U ∧
  va_O "java/lang/String" (gA g 2) A U H ∧ va_OF "java/lang/String" "value" "[B" (.ref (gA g 3)) (gA g 2) A U H ∧ va_OF "java/lang/String" "coder" "B" (.int 0) (gA g 2) A U H ∧
  va_T .byte (gA g 3) 64 (fun j => .int (kA j)) A U H ∧ va_Z "java/lang/String" "COMPACT_STRINGS" "Z" (.int 1) A U H ∧
  va_Zq "jdk/internal/util/Preconditions" "SIOOBE_FORMATTER" fmtD A U H ∧
  vx_Zq Bundle.tN "UNASSIGNED_STACK" Bundle.steD A U H ∧ vx_Zq Bundle.tN "SUPPRESSED_SENTINEL" Bundle.listD A U H
theorem EnvG.kept {g : GG} {A : Nat → Prop} {U : State} {H H1 : Heap} (h : EnvG g A U H) (hq : ∀ a : Nat, a < H.size → ¬ A a → H1[a]? = H[a]?) : EnvG g A U H1 := by
  obtain ⟨h0, h1, h2, h3, h4, h5, h6, h7, h8, h9, h10, h11, h12, h13⟩ := h
  exact ⟨h0, h1.kept hq, h2.kept hq, h3.kept hq, h4.kept hq, h5, h6.kept hq, h7.kept hq, h8.kept hq, h9.kept hq, h10.kept hq, h11.kept hq, h12.kept hq, h13.kept hq⟩
theorem EnvG.narrow {g : GG} {A B : Nat → Prop} {U : State} {H : Heap} (h : EnvG g A U H) (hq : ∀ q, B q → A q) : EnvG g B U H := by
  obtain ⟨h0, h1, h2, h3, h4, h5, h6, h7, h8, h9, h10, h11, h12, h13⟩ := h
  exact ⟨h0, h1.narrow hq, h2.narrow hq, h3.narrow hq, h4.narrow hq, h5, h6.narrow hq, h7.narrow hq, h8.narrow hq, h9.narrow hq, h10.narrow hq, h11.narrow hq, h12.narrow hq, h13.narrow hq⟩
theorem EnvG.moved {g : GG} {A : Nat → Prop} {s U : State} {H : Heap} (h : EnvG g A s H) (hW : s.WarmedH U.vm) : EnvG g A U H := by
  obtain ⟨h0, h1, h2, h3, h4, h5, h6, h7, h8, h9, h10, h11, h12, h13⟩ := h
  have hv := hW.alike
  exact ⟨fun w hw => nw_warm (nws_ok w hw) hW (h0 w hw), h1.moved hv, h2.moved hv, h3.moved hv, h4.moved hv, h5.warm hW, h6.moved hv, h7.moved hv, h8.moved hv, h9.moved hv, h10.moved hv, h11.moved hv, h12.moved hv, h13.moved hv⟩
theorem EnvG.same {g : GG} {A : Nat → Prop} {s U : State} {H : Heap} (h : EnvG g A s H) (hW : U.vm = s.vm) : EnvG g A U H := by
  obtain ⟨h0, h1, h2, h3, h4, h5, h6, h7, h8, h9, h10, h11, h12, h13⟩ := h
  have hv : s.vm.Alike U.vm := by rw [hW]; exact Vm.Alike.refl s.vm
  exact ⟨fun w hw => va_Nw.same (nw_tab (nws_ok w hw)) hW.symm (h0 w hw), h1.moved hv, h2.moved hv, h3.moved hv, h4.moved hv, h5.same hW, h6.moved hv, h7.moved hv, h8.moved hv, h9.moved hv, h10.moved hv, h11.moved hv, h12.moved hv, h13.moved hv⟩
/-- a method's start over the cells WS -/
def CP (g : GG) (WS : va_W) (sz : Nat) : State → Prop := fun U => U.heap.size = sz ∧ va_P (gD g) vwCl WS U.heap ∧ va_K (gD g) vwCl (gT g) U ∧ va_D (fun _ => True) WS ∧ EnvG g (va_A WS sz) U U.heap
/-- .. and its end -/
def CQ {S : Type} (g : GG) (WS' : S → va_W) (A : Nat → Prop) : S → State → Prop := fun u t => va_P (gD g) vwCl (WS' u) t.heap ∧ va_K (gD g) vwCl (gT g) t ∧ va_D A (WS' u)
abbrev rmm (fr lo : Nat) : Room := { frames := fr, cells := 0, slots := 0, locals := lo }
/-- a contract: a method that makes no cells -/
def Ct (g : GG) (l : Launch) (y : MethodName) (cy : ByteArray) (n : Nat) (r : Option FieldType) (fr lo : Nat) (args : List Value) (WS : va_W) (Q : (Nat → Prop) → Array Value → State → Outcome → State → Prop) : Prop :=
  ∀ sz : Nat, Met l y (Cond.code y cy n r :: BIG) (rmm fr lo) (va_Pc args (CP g WS sz)) (Q (va_A WS sz)) 0 0 (va_A WS sz)
abbrev Ri {S : Type} (g : GG) (post : Int32 → S → Prop) (WS' : S → va_W) : (Nat → Prop) → Array Value → State → Outcome → State → Prop := fun A => va_Qi post (CQ g WS' A) A
abbrev Rl {S : Type} (g : GG) (post : Int64 → S → Prop) (WS' : S → va_W) : (Nat → Prop) → Array Value → State → Outcome → State → Prop := fun A => va_Ql post (CQ g WS' A) A
abbrev Rv {S : Type} (g : GG) (post : S → Prop) (WS' : S → va_W) : (Nat → Prop) → Array Value → State → Outcome → State → Prop := fun A => va_Qv post (CQ g WS' A) A
abbrev Rq {S : Type} (g : GG) (post : Option Nat → S → Prop) (WS' : S → va_W) : (Nat → Prop) → Array Value → State → Outcome → State → Prop := fun A => va_Qq post (CQ g WS' A) A
/-- all that a walk knows of the heap -/
def Wd (g : GG) (s : State) (A : Nat → Prop) (H : Heap) (locs : List Loc) (ws : va_W) : Prop :=
  va_K (gD g) vwCl (gT g) s ∧ va_P (gD g) vwCl ws H ∧ va_D A ws ∧ va_S A s.heap H locs ∧ EnvG g A s s.heap ∧ ∀ q, s.heap.size ≤ q → A q
/-- cells of a world replaced, by their places -/
def sA : va_W → List Nat → va_W → va_W
  | ws, p :: ps, c :: cs => sA (ws.set p c) ps cs
  | ws, _, _ => ws
theorem sA_get : ∀ (ps : List Nat) (cs ws : va_W) (k : Nat) (q : Nat × va_E), cs.length = ps.length → (sA ws ps cs)[k]? = some q → (∃ j : Nat, ps[j]? = some k ∧ cs[j]? = some q) ∨ (k ∉ ps ∧ ws[k]? = some q) := by
  intro ps
  induction ps with
  | nil =>
    intro cs ws k q hl h
    refine Or.inr ⟨List.not_mem_nil, ?_⟩
    cases cs with
    | nil => exact h
    | cons c cs => exact h
  | cons p ps ih =>
    intro cs ws k q hl h
    cases cs with
    | nil => cases hl
    | cons c cs =>
      rcases ih cs (ws.set p c) k q (Nat.succ.inj hl) h with ⟨j, h1, h2⟩ | ⟨h1, h2⟩
      · exact Or.inl ⟨j + 1, h1, h2⟩
      · by_cases e : p = k
        · subst e
          rw [List.getElem?_set_self' ] at h2
          cases hw : ws[p]? with
          | none => rw [hw] at h2; cases h2
          | some z => rw [hw] at h2; exact Or.inl ⟨0, rfl, h2⟩
        · rw [List.getElem?_set_ne e] at h2
          exact Or.inr ⟨fun hm => (List.mem_cons.mp hm).elim (fun z => e z.symm) h1, h2⟩
theorem va_joinS {A0 : Nat → Prop} {D : va_G} {cl : List vw_C} {ws wc w1 : va_W} {H H1 : Heap} (hP : va_P D cl ws H) (hD : va_D A0 ws) (ps : List Nat) (hC : ps.map (fun i => ws[i]?) = wc.map some)
    (hk : ∀ q : Nat, q < H.size → ¬ va_A wc H.size q → H1[q]? = H[q]?) (hP1 : va_P D cl w1 H1) (ha : w1.map Prod.fst = wc.map Prod.fst) : va_P D cl (sA ws ps w1) H1 ∧ va_D A0 (sA ws ps w1) := by
  have hlen : wc.length = ps.length := by have := congrArg List.length hC; simpa using this.symm
  have hlen1 : w1.length = ps.length := by have := congrArg List.length ha; simp at this; omega
  have hat : ∀ (j i : Nat), ps[j]? = some i → ∃ z, wc[j]? = some z ∧ ws[i]? = some z := by
    intro j i hj
    have h1 : (ps.map (fun i => ws[i]?))[j]? = some (ws[i]?) := by simp [hj]
    rw [hC] at h1
    simp only [List.getElem?_map] at h1
    cases hw : wc[j]? with
    | none => rw [hw] at h1; cases h1
    | some z => rw [hw] at h1; exact ⟨z, rfl, (Option.some.inj h1).symm⟩
  have hadr : ∀ (j : Nat) (q : Nat × va_E), w1[j]? = some q → ∃ e, wc[j]? = some (q.1, e) := by
    intro j q hj
    have h1 : (w1.map Prod.fst)[j]? = some q.1 := by simp [hj]
    rw [ha] at h1
    simp only [List.getElem?_map] at h1
    cases hw : wc[j]? with
    | none => rw [hw] at h1; cases h1
    | some z => rw [hw] at h1; exact ⟨z.2, by have := Option.some.inj h1; rw [← this]⟩
  have hold : ∀ (k : Nat) (q : Nat × va_E), (sA ws ps w1)[k]? = some q → ∃ e, ws[k]? = some (q.1, e) := by
    intro k q hk
    rcases sA_get ps w1 ws k q hlen1 hk with ⟨j, h1, h2⟩ | ⟨-, h2⟩
    · obtain ⟨e, he⟩ := hadr j q h2
      obtain ⟨z, hz1, hz2⟩ := hat j k h1
      rw [he] at hz1
      exact ⟨e, by rw [hz2, ← hz1]⟩
    · exact ⟨q.2, h2⟩
  refine ⟨?_, ?_, ?_⟩
  · intro k q hq
    rcases sA_get ps w1 ws k q hlen1 hq with ⟨j, h1, h2⟩ | ⟨h1, h2⟩
    · exact hP1 j q h2
    · have hv := hP k q h2
      refine va_at.kept hv (hk _ (va_at.lt hv) ?_)
      rintro (⟨j, e, hj⟩ | hge)
      · have hjl : j < ps.length := by rw [← hlen]; exact (List.getElem?_eq_some_iff.mp hj).1
        obtain ⟨z, hz1, hz2⟩ := hat j ps[j] (List.getElem?_eq_getElem hjl)
        rw [hj] at hz1
        have e1 := hD.1 k ps[j] q z h2 hz2 (by rw [← Option.some.inj hz1])
        exact h1 (by rw [e1]; exact List.getElem_mem hjl)
      · exact absurd (va_at.lt hv) (Nat.not_lt.mpr hge)
  · intro i j p q hi hj e
    obtain ⟨e1, h1⟩ := hold i p hi
    obtain ⟨e2, h2⟩ := hold j q hj
    exact hD.1 i j _ _ h1 h2 e
  · intro k q hq
    obtain ⟨e1, h1⟩ := hold k q hq
    exact hD.2 k (q.1, e1) h1
theorem goodOf {ws : List Cond} (h : ∀ w ∈ ws, w ∈ BIG) : GoodIn BIG ws := fun w hw => goodBIG w (h w hw)
theorem goodC {y : MethodName} {cy : ByteArray} {n : Nat} {r : Option FieldType} (h5 : Cond.code y cy n r ∈ BIG) : GoodIn BIG (Cond.code y cy n r :: BIG) := goodOf (fun w hw => (List.mem_cons.mp hw).elim (fun e => e ▸ h5) id)
theorem goodV {own C : String} {idx : Nat} {y : MethodName} {cy : ByteArray} {n : Nat} {r : Option FieldType} (h1 : Cond.methodLink own idx y ∈ BIG) (h2 : Cond.instanceMethod y ∈ BIG) (h3 : Cond.selects C y y ∈ BIG) (h4 : Cond.initialized C ∈ BIG) (h5 : Cond.code y cy n r ∈ BIG) : GoodIn BIG (wsV own idx C y (Cond.code y cy n r :: BIG)) := by
  refine goodOf (fun w hw => ?_)
  rcases List.mem_append.mp hw with h | h
  · simp only [List.mem_cons, List.not_mem_nil, or_false] at h
    rcases h with rfl | rfl | rfl | rfl <;> assumption
  · exact (goodC h5 w h).1
theorem goodS {own : String} {idx : Nat} {y : MethodName} {cy : ByteArray} {n : Nat} {r : Option FieldType} (h1 : Cond.methodLink own idx y ∈ BIG) (h2 : Cond.static y ∈ BIG) (h4 : Cond.initialized y.cls ∈ BIG) (h5 : Cond.code y cy n r ∈ BIG) : GoodIn BIG (va_wsS own idx y (Cond.code y cy n r :: BIG)) := by
  refine goodOf (fun w hw => ?_)
  rcases List.mem_append.mp hw with h | h
  · simp only [List.mem_cons, List.not_mem_nil, or_false] at h
    rcases h with rfl | rfl | rfl <;> assumption
  · exact (goodC h5 w h).1
end
section
abbrev ushr (x y : Int32) : Int32 := (x.toUInt32 >>> (y.toUInt32 &&& Int32.toUInt32 31)).toInt32
abbrev lushr (x : Int64) (y : Int32) : Int64 := (x.toUInt64 >>> (y.toInt64.toUInt64 &&& Int64.toUInt64 63)).toInt64
abbrev lshl (x : Int64) (y : Int32) : Int64 := x <<< (y.toInt64 &&& 63)
abbrev lshr (x : Int64) (y : Int32) : Int64 := x >>> (y.toInt64 &&& 63)
theorem inc_n (k c : Nat) : nI k + Int32.ofInt (c : Int) = nI (k + c) := by
  rw [← nI_add]; rfl
theorem dec_n {k c : Nat} (h : c ≤ k) : nI k + Int32.ofInt (-(c : Int)) = nI (k - c) := by
  rw [← pk_sub h]
  show nI k + Int32.ofInt (-(c : Int)) = nI k - Int32.ofInt (c : Int)
  rw [Int32.ofInt_neg, Int32.sub_eq_add_neg]
section RU
variable {p : Program} {l : Launch} {e : Env} {R : Room} {s : State} {m : MethodId} {args : Array Value} {below : List Frame} {meth : Method} {c : Code} {H : Heap} {locs : List Loc} {cells slots : Nat} {Q : State → Prop} {g : GG} {A : Nat → Prop} {ws : va_W} {cc : ByteArray} {nL : Nat} {own : String} {pc : Nat} {ls : Array Slot} {rest : List Value} {a : Nat}
/-- another name of the number on top -/
theorem tp_i {x y : Int32} (h : x = y) (k : W p l e R s m args below meth c H locs cells slots Q (F0 m pc ls (.int y :: rest))) : W p l e R s m args below meth c H locs cells slots Q (F0 m pc ls (.int x :: rest)) := h ▸ k
theorem tp_l {x y : Int64} (h : x = y) (k : W p l e R s m args below meth c H locs cells slots Q (F0 m pc ls (.long y :: rest))) : W p l e R s m args below meth c H locs cells slots Q (F0 m pc ls (.long x :: rest)) := h ▸ k
-- numbers as naturals
theorem n_add {x y : Nat} (hx : p.tables.exec = Jvm.exec) (hb : c.code = cc) (hdg : decode cc pc = .ok (.iadd, 1)) (k : W p l e R s m args below meth c H locs cells slots Q (F0 m (pc + 1) ls (.int (nI (x + y)) :: rest))) : W p l e R s m args below meth c H locs cells slots Q (F0 m pc ls (.int (nI y) :: .int (nI x) :: rest)) := lv_iadd hx hb hdg (by rw [nI_add]; exact k)
theorem n_mul {x y : Nat} (hx : p.tables.exec = Jvm.exec) (hb : c.code = cc) (hdg : decode cc pc = .ok (.imul, 1)) (k : W p l e R s m args below meth c H locs cells slots Q (F0 m (pc + 1) ls (.int (nI (x * y)) :: rest))) : W p l e R s m args below meth c H locs cells slots Q (F0 m pc ls (.int (nI y) :: .int (nI x) :: rest)) := lv_imul hx hb hdg (by rw [pk_mul]; exact k)
theorem n_sub {x y : Nat} (hx : p.tables.exec = Jvm.exec) (hb : c.code = cc) (hxy : y ≤ x) (hdg : decode cc pc = .ok (.isub, 1)) (k : W p l e R s m args below meth c H locs cells slots Q (F0 m (pc + 1) ls (.int (nI (x - y)) :: rest))) : W p l e R s m args below meth c H locs cells slots Q (F0 m pc ls (.int (nI y) :: .int (nI x) :: rest)) := lv_isub hx hb hdg (by rw [pk_sub hxy]; exact k)
theorem n_div {x y : Nat} (hx : p.tables.exec = Jvm.exec) (hb : c.code = cc) (h1 : x < 2 ^ 31) (h0 : 0 < y) (hy : y < 2 ^ 31) (hdg : decode cc pc = .ok (.idiv, 1)) (k : W p l e R s m args below meth c H locs cells slots Q (F0 m (pc + 1) ls (.int (nI (x / y)) :: rest))) : W p l e R s m args below meth c H locs cells slots Q (F0 m pc ls (.int (nI y) :: .int (nI x) :: rest)) := lv_idiv hx hb hdg (nI_ne0 h0 hy) (by rw [pk_div h1 h0 hy]; exact k)
theorem n_rem {x y : Nat} (hx : p.tables.exec = Jvm.exec) (hb : c.code = cc) (h1 : x < 2 ^ 31) (h0 : 0 < y) (hy : y < 2 ^ 31) (hdg : decode cc pc = .ok (.irem, 1)) (k : W p l e R s m args below meth c H locs cells slots Q (F0 m (pc + 1) ls (.int (nI (x % y)) :: rest))) : W p l e R s m args below meth c H locs cells slots Q (F0 m pc ls (.int (nI y) :: .int (nI x) :: rest)) := lv_irem hx hb hdg (nI_ne0 h0 hy) (by rw [pk_rem h1 h0 hy]; exact k)
theorem n_ge {x y : Nat} {off : Int} {tgt : Nat} (hx : p.tables.exec = Jvm.exec) (hb : c.code = cc) (h1 : x < 2 ^ 31) (h2 : y < 2 ^ 31) (hdg : decode cc pc = .ok (.if_icmp .ge off, 3)) (ht : (pc : Int) + off = (tgt : Int)) (kt : y ≤ x → W p l e R s m args below meth c H locs cells slots Q (F0 m tgt ls rest)) (kf : x < y → W p l e R s m args below meth c H locs cells slots Q (F0 m (pc + 3) ls rest)) : W p l e R s m args below meth c H locs cells slots Q (F0 m pc ls (.int (nI y) :: .int (nI x) :: rest)) := lv_icmp_ge hx hb hdg ht (fun h => kt ((nI_leI h2 h1).mp h)) (fun h => kf (Nat.lt_of_not_le (fun z => h ((nI_leI h2 h1).mpr z))))
theorem n_lt {x y : Nat} {off : Int} {tgt : Nat} (hx : p.tables.exec = Jvm.exec) (hb : c.code = cc) (h1 : x < 2 ^ 31) (h2 : y < 2 ^ 31) (hdg : decode cc pc = .ok (.if_icmp .lt off, 3)) (ht : (pc : Int) + off = (tgt : Int)) (kt : x < y → W p l e R s m args below meth c H locs cells slots Q (F0 m tgt ls rest)) (kf : y ≤ x → W p l e R s m args below meth c H locs cells slots Q (F0 m (pc + 3) ls rest)) : W p l e R s m args below meth c H locs cells slots Q (F0 m pc ls (.int (nI y) :: .int (nI x) :: rest)) := lv_icmp_lt hx hb hdg ht (fun h => kt ((nI_ltI h1 h2).mp h)) (fun h => kf (Nat.le_of_not_lt (fun z => h ((nI_ltI h1 h2).mpr z))))
theorem n_le {x y : Nat} {off : Int} {tgt : Nat} (hx : p.tables.exec = Jvm.exec) (hb : c.code = cc) (h1 : x < 2 ^ 31) (h2 : y < 2 ^ 31) (hdg : decode cc pc = .ok (.if_icmp .le off, 3)) (ht : (pc : Int) + off = (tgt : Int)) (kt : x ≤ y → W p l e R s m args below meth c H locs cells slots Q (F0 m tgt ls rest)) (kf : y < x → W p l e R s m args below meth c H locs cells slots Q (F0 m (pc + 3) ls rest)) : W p l e R s m args below meth c H locs cells slots Q (F0 m pc ls (.int (nI y) :: .int (nI x) :: rest)) := lv_icmp_le hx hb hdg ht (fun h => kt ((nI_leI h1 h2).mp h)) (fun h => kf (Nat.lt_of_not_le (fun z => h ((nI_leI h1 h2).mpr z))))
theorem n_gt {x y : Nat} {off : Int} {tgt : Nat} (hx : p.tables.exec = Jvm.exec) (hb : c.code = cc) (h1 : x < 2 ^ 31) (h2 : y < 2 ^ 31) (hdg : decode cc pc = .ok (.if_icmp .gt off, 3)) (ht : (pc : Int) + off = (tgt : Int)) (kt : y < x → W p l e R s m args below meth c H locs cells slots Q (F0 m tgt ls rest)) (kf : x ≤ y → W p l e R s m args below meth c H locs cells slots Q (F0 m (pc + 3) ls rest)) : W p l e R s m args below meth c H locs cells slots Q (F0 m pc ls (.int (nI y) :: .int (nI x) :: rest)) := lv_icmp_gt hx hb hdg ht (fun h => kt ((nI_ltI h2 h1).mp h)) (fun h => kf (Nat.le_of_not_lt (fun z => h ((nI_ltI h2 h1).mpr z))))
theorem n_eq {x y : Nat} {off : Int} {tgt : Nat} (hx : p.tables.exec = Jvm.exec) (hb : c.code = cc) (h1 : x < 2 ^ 31) (h2 : y < 2 ^ 31) (hdg : decode cc pc = .ok (.if_icmp .eq off, 3)) (ht : (pc : Int) + off = (tgt : Int)) (kt : x = y → W p l e R s m args below meth c H locs cells slots Q (F0 m tgt ls rest)) (kf : ¬ x = y → W p l e R s m args below meth c H locs cells slots Q (F0 m (pc + 3) ls rest)) : W p l e R s m args below meth c H locs cells slots Q (F0 m pc ls (.int (nI y) :: .int (nI x) :: rest)) := lv_icmp_eq hx hb hdg ht (fun h => kt ((nI_eq h1 h2).mp h)) (fun h => kf (fun z => h ((nI_eq h1 h2).mpr z)))
theorem n_ne {x y : Nat} {off : Int} {tgt : Nat} (hx : p.tables.exec = Jvm.exec) (hb : c.code = cc) (h1 : x < 2 ^ 31) (h2 : y < 2 ^ 31) (hdg : decode cc pc = .ok (.if_icmp .ne off, 3)) (ht : (pc : Int) + off = (tgt : Int)) (kt : ¬ x = y → W p l e R s m args below meth c H locs cells slots Q (F0 m tgt ls rest)) (kf : x = y → W p l e R s m args below meth c H locs cells slots Q (F0 m (pc + 3) ls rest)) : W p l e R s m args below meth c H locs cells slots Q (F0 m pc ls (.int (nI y) :: .int (nI x) :: rest)) := lv_icmp_ne hx hb hdg ht (fun h => kt (fun z => h ((nI_eq h1 h2).mpr z))) (fun h => kf ((nI_eq h1 h2).mp h))
-- arrays, the place a natural
theorem ia_ld (S : CallFix p m c cc nL s args BIG own) (hw : Wd g s A H locs ws) (q0 : Nat) {n k : Nat} {f : Nat → Int32} (he : ws[q0]? = some (a, iA g n f)) (hk : k < n) (hn : n < 2 ^ 31) (hdg : decode cc pc = .ok (.iaload, 1)) (kk : W p l e R s m args below meth c H locs cells slots Q (F0 m (pc + 1) ls (.int (f k) :: rest))) : W p l e R s m args below meth c H locs cells slots Q (F0 m pc ls (.int (nI k) :: .ref a :: rest)) :=
  va_iald S.1 S.2.1 hw.1 hw.2.1 q0 0 he rfl (vp_in_nI hk hn) hdg (by rw [nI_clamp (Nat.lt_trans hk hn)]; exact kk)
theorem za_ld (S : CallFix p m c cc nL s args BIG own) (hw : Wd g s A H locs ws) (q0 : Nat) {n k : Nat} {f : Nat → Int32} (he : ws[q0]? = some (a, zA g n f)) (hk : k < n) (hn : n < 2 ^ 31) (hdg : decode cc pc = .ok (.baload, 1)) (kk : W p l e R s m args below meth c H locs cells slots Q (F0 m (pc + 1) ls (.int (f k) :: rest))) : W p l e R s m args below meth c H locs cells slots Q (F0 m pc ls (.int (nI k) :: .ref a :: rest)) :=
  va_zald S.1 S.2.1 hw.1 hw.2.1 q0 2 he rfl (vp_in_nI hk hn) hdg (by rw [nI_clamp (Nat.lt_trans hk hn)]; exact kk)
theorem ja_ld (S : CallFix p m c cc nL s args BIG own) (hw : Wd g s A H locs ws) (q0 : Nat) {n k : Nat} {f : Nat → Int64} (he : ws[q0]? = some (a, jA g n f)) (hk : k < n) (hn : n < 2 ^ 31) (hdg : decode cc pc = .ok (.laload, 1)) (kk : W p l e R s m args below meth c H locs cells slots Q (F0 m (pc + 1) ls (.long (f k) :: rest))) : W p l e R s m args below meth c H locs cells slots Q (F0 m pc ls (.int (nI k) :: .ref a :: rest)) :=
  va_lald S.1 S.2.1 hw.1 hw.2.1 q0 1 he rfl (vp_in_nI hk hn) hdg (by rw [nI_clamp (Nat.lt_trans hk hn)]; exact kk)
theorem ra_ld (S : CallFix p m c cc nL s args BIG own) (hw : Wd g s A H locs ws) (q0 t0 : Nat) {n k b : Nat} {C : String} {f : Nat → Option Nat} (he : ws[q0]? = some (a, rA g t0 n f)) (ht : (gT g)[t0]? = some (gC g t0, .object C)) (hk : k < n) (hn : n < 2 ^ 31) (hf : f k = some b) (hdg : decode cc pc = .ok (.aaload, 1)) (kk : W p l e R s m args below meth c H locs cells slots Q (F0 m (pc + 1) ls (.ref b :: rest))) : W p l e R s m args below meth c H locs cells slots Q (F0 m pc ls (.int (nI k) :: .ref a :: rest)) :=
  va_aldq S.1 S.2.1 hw.1 hw.2.1 q0 t0 he ht (vp_in_nI hk hn) hdg (by rw [nI_clamp (Nat.lt_trans hk hn), hf]; exact kk)
theorem ia_st (S : CallFix p m c cc nL s args BIG own) (hw : Wd g s A H locs ws) (q0 : Nat) {n k : Nat} {f : Nat → Int32} {x : Int32} (he : ws[q0]? = some (a, iA g n f)) (hk : k < n) (hn : n < 2 ^ 31) (hdg : decode cc pc = .ok (.iastore, 1)) (kk : ∀ (H1 : Heap) (locs1 : List Loc), Wd g s A H1 locs1 (ws.set q0 (a, iA g n (upd f k x))) → W p l e R s m args below meth c H1 locs1 cells slots Q (F0 m (pc + 1) ls rest)) : W p l e R s m args below meth c H locs cells slots Q (F0 m pc ls (.int x :: .int (nI k) :: .ref a :: rest)) :=
  va_iast S.1 S.2.1 hw.1 hw.2.1 hw.2.2.1 hw.2.2.2.1 q0 0 he rfl (vp_in_nI hk hn) hdg (by rw [nI_clamp (Nat.lt_trans hk hn)]; exact fun H1 l1 h1 h2 h3 => kk H1 l1 ⟨hw.1, h1, h2, h3, hw.2.2.2.2⟩)
theorem za_st (S : CallFix p m c cc nL s args BIG own) (hw : Wd g s A H locs ws) (q0 : Nat) {n k : Nat} {f : Nat → Int32} {x : Int32} (he : ws[q0]? = some (a, zA g n f)) (hk : k < n) (hn : n < 2 ^ 31) (hz : vp_nar .boolean x = x) (hdg : decode cc pc = .ok (.bastore, 1)) (kk : ∀ (H1 : Heap) (locs1 : List Loc), Wd g s A H1 locs1 (ws.set q0 (a, zA g n (upd f k x))) → W p l e R s m args below meth c H1 locs1 cells slots Q (F0 m (pc + 1) ls rest)) : W p l e R s m args below meth c H locs cells slots Q (F0 m pc ls (.int x :: .int (nI k) :: .ref a :: rest)) :=
  va_zast S.1 S.2.1 hw.1 hw.2.1 hw.2.2.1 hw.2.2.2.1 q0 2 he rfl (vp_in_nI hk hn) hdg (by rw [nI_clamp (Nat.lt_trans hk hn), hz]; exact fun H1 l1 h1 h2 h3 => kk H1 l1 ⟨hw.1, h1, h2, h3, hw.2.2.2.2⟩)
theorem ja_st (S : CallFix p m c cc nL s args BIG own) (hw : Wd g s A H locs ws) (q0 : Nat) {n k : Nat} {f : Nat → Int64} {x : Int64} (he : ws[q0]? = some (a, jA g n f)) (hk : k < n) (hn : n < 2 ^ 31) (hdg : decode cc pc = .ok (.lastore, 1)) (kk : ∀ (H1 : Heap) (locs1 : List Loc), Wd g s A H1 locs1 (ws.set q0 (a, jA g n (vp_updL f k x))) → W p l e R s m args below meth c H1 locs1 cells slots Q (F0 m (pc + 1) ls rest)) : W p l e R s m args below meth c H locs cells slots Q (F0 m pc ls (.long x :: .int (nI k) :: .ref a :: rest)) :=
  va_last S.1 S.2.1 hw.1 hw.2.1 hw.2.2.1 hw.2.2.2.1 q0 1 he rfl (vp_in_nI hk hn) hdg (by rw [nI_clamp (Nat.lt_trans hk hn)]; exact fun H1 l1 h1 h2 h3 => kk H1 l1 ⟨hw.1, h1, h2, h3, hw.2.2.2.2⟩)
theorem ia_len (S : CallFix p m c cc nL s args BIG own) (hw : Wd g s A H locs ws) (q0 : Nat) {n : Nat} {f : Nat → Int32} (he : ws[q0]? = some (a, iA g n f)) (hdg : decode cc pc = .ok (.arraylength, 1)) (kk : W p l e R s m args below meth c H locs cells slots Q (F0 m (pc + 1) ls (.int (nI n) :: rest))) : W p l e R s m args below meth c H locs cells slots Q (F0 m pc ls (.ref a :: rest)) :=
  va_alen S.1 S.2.1 hw.1 hw.2.1 q0 0 he rfl rfl hdg kk
-- ends
theorem rt_i {S : Type} {post : Int32 → S → Prop} {WS' : S → va_W} {v : Int32} (F : CallFix p m c cc nL s args BIG own) (hr : meth.sig.returnType = some .int) (hlk : meth.locks = false) (hQ : Q = MQ below (Ri g post WS' A) args s 0 0 A) (hw : Wd g s A H locs ws) (u : S) (hp : post v u) (hws : ws = WS' u) (hdg : decode cc pc = .ok (.ireturn, 1)) : W p l e R s m args below meth c H locs 0 0 Q (F0 m pc ls [.int v]) := by
  subst hQ
  exact W.iret F.1 F.2.1 hr (fun t ht hW => ⟨⟨v, u, rfl, hp, by rw [ht, ← hws]; exact hw.2.1, va_K.moved hW.alike hw.1, hws ▸ hw.2.2.1⟩, hw.2.2.2.1.F ht⟩) hw.2.2.2.1.2.2 hdg hlk
theorem rt_z {S : Type} {post : Int32 → S → Prop} {WS' : S → va_W} {v : Int32} {ty : FieldType} (F : CallFix p m c cc nL s args BIG own) (hr : meth.sig.returnType = some ty) (hn : narrow ty (.int v) = .int v) (hlk : meth.locks = false) (hQ : Q = MQ below (Ri g post WS' A) args s 0 0 A) (hw : Wd g s A H locs ws) (u : S) (hp : post v u) (hws : ws = WS' u) (hdg : decode cc pc = .ok (.ireturn, 1)) : W p l e R s m args below meth c H locs 0 0 Q (F0 m pc ls [.int v]) := by
  subst hQ
  exact W.zret F.1 F.2.1 hr hn (fun t ht hW => ⟨⟨v, u, rfl, hp, by rw [ht, ← hws]; exact hw.2.1, va_K.moved hW.alike hw.1, hws ▸ hw.2.2.1⟩, hw.2.2.2.1.F ht⟩) hw.2.2.2.1.2.2 hdg hlk
theorem rt_l {S : Type} {post : Int64 → S → Prop} {WS' : S → va_W} {v : Int64} (F : CallFix p m c cc nL s args BIG own) (hr : meth.sig.returnType = some .long) (hlk : meth.locks = false) (hQ : Q = MQ below (Rl g post WS' A) args s 0 0 A) (hw : Wd g s A H locs ws) (u : S) (hp : post v u) (hws : ws = WS' u) (hdg : decode cc pc = .ok (.lreturn, 1)) : W p l e R s m args below meth c H locs 0 0 Q (F0 m pc ls [.long v]) := by
  subst hQ
  exact W.lret F.1 F.2.1 hr (fun t ht hW => ⟨⟨v, u, rfl, hp, by rw [ht, ← hws]; exact hw.2.1, va_K.moved hW.alike hw.1, hws ▸ hw.2.2.1⟩, hw.2.2.2.1.F ht⟩) hw.2.2.2.1.2.2 hdg
theorem rt_v {S : Type} {post : S → Prop} {WS' : S → va_W} (F : CallFix p m c cc nL s args BIG own) (hr : meth.sig.returnType = none) (hlk : meth.locks = false) (hQ : Q = MQ below (Rv g post WS' A) args s 0 0 A) (hw : Wd g s A H locs ws) (u : S) (hp : post u) (hws : ws = WS' u) (hdg : decode cc pc = .ok (.return_, 1)) : W p l e R s m args below meth c H locs 0 0 Q (F0 m pc ls []) := by
  subst hQ
  exact W.vret F.1 F.2.1 hr (fun t ht hW => ⟨⟨u, rfl, hp, by rw [ht, ← hws]; exact hw.2.1, va_K.moved hW.alike hw.1, hws ▸ hw.2.2.1⟩, hw.2.2.2.1.F ht⟩) hw.2.2.2.1.2.2 hdg hlk
theorem rt_q {S : Type} {post : Option Nat → S → Prop} {WS' : S → va_W} {v : Value} {C : String} (F : CallFix p m c cc nL s args BIG own) (hr : meth.sig.returnType = some (.object C)) (hlk : meth.locks = false) (hQ : Q = MQ below (Rq g post WS' A) args s 0 0 A) (hw : Wd g s A H locs ws) (u : S) (b : Option Nat) (hv : v = va_rf b) (hp : post b u) (hws : ws = WS' u) (hdg : decode cc pc = .ok (.areturn, 1)) : W p l e R s m args below meth c H locs 0 0 Q (F0 m pc ls [v]) := by
  subst hQ
  exact W.aret F.1 F.2.1 hr (Or.inl ⟨C, rfl⟩) (by rw [hv]; exact va_rf_or b) (fun t ht hW => ⟨⟨b, u, by rw [hv], hp, by rw [ht, ← hws]; exact hw.2.1, va_K.moved hW.alike hw.1, hws ▸ hw.2.2.1⟩, hw.2.2.2.1.F ht⟩) hw.2.2.2.1.2.2 hdg hlk
-- the start
theorem CP_blind {WS : va_W} {sz : Nat} {av : List Value} : FrameBlind (va_Pc av (CP g WS sz)) := by
  intro a U fr mk q
  obtain ⟨q0, q1, qP, qK, qD, qE⟩ := q
  exact ⟨q0, q1, qP, va_K.moved (u := U) (U := U.calling fr mk a) (Vm.Alike.refl U.vm) qK, qD, EnvG.same (s := U) qE rfl⟩
theorem mkC {y : MethodName} {cy : ByteArray} {n : Nat} {r : Option FieldType} {fr lo : Nat} {av : List Value} {WS : va_W} {Qf : (Nat → Prop) → Array Value → State → Outcome → State → Prop} (hy : plainName y.cls = true) (hlen : (lg_sl av).length ≤ n)
    (body : ∀ (p : Program) (e : Env) (s : State) (m : MethodId) (args : Array Value) (below : List Frame) (meth : Method) (c : Code) (A : Nat → Prop) (ls : Array Slot) (QQ : State → Prop), CallFix p m c cy n s args BIG y.cls → meth.sig.returnType = r → meth.locks = false → meth.name = y.name → QQ = MQ below (Qf A) args s 0 0 A → Wd g s A s.heap [] WS → lv_has ls n (lv_args 0 av) →
      W p l e (rmm fr lo) s m args below meth c s.heap [] 0 0 QQ (F0 m 0 ls [])) : Ct g l y cy n r fr lo av WS Qf := by
  intro sz
  refine Met.ofW (cc := cy) (maxL := n) (ret := r) hy rfl ?_
  intro p e s m args below meth c s₁ B hml hv
  obtain ⟨rfl, hsz, hP, hK, hD0, hE⟩ := hv
  subst hsz
  have hts := atoms_spec (ws := Cond.code y cy n r :: BIG) B.pre
  rw [lg_entry_eq]
  exact body p e s m _ below meth c _ _ _ ⟨B.exec, B.bytes, hml, findClass_of_methodNamed B.named, fun w h => hts w (List.mem_cons_of_mem _ h)⟩ B.returns B.notSynchronized (name_of_methodNamed B.named B.method).1 rfl ⟨hK, hP, hD0.self (sz := s.heap.size), va_S.rf, hE, fun q h => Or.inr h⟩ (lv_entry av hlen)
-- calls
theorem preU {WS : va_W} (ps : List Nat) {av : List Value} (hw : Wd g s A H locs ws) (hnd : va_nd ps = true) (hC : ps.map (fun i => ws[i]?) = WS.map some) (U : State) (hU : U.heap = H) (hW : s.WarmedH U.vm) : va_Pc av (CP g WS H.size) av.toArray U := by
  obtain ⟨hK, hP, hD, hS, hE, hA⟩ := hw
  have hF := va_free (wc := WS) hD hS hA ps hC
  refine ⟨rfl, by rw [hU], ?_, va_K.moved hW.alike hK, (hD.sub ps hnd hC).weaken (fun _ _ _ _ => trivial), ?_⟩
  · rw [hU]
    refine hP.sub ps ?_
    have e1 : ps.filterMap (fun i => ws[i]?) = (ps.map (fun i => ws[i]?)).filterMap id := by simp [List.filterMap_map]
    rw [e1, hC]
    simp [List.filterMap_map]
  · rw [hU]
    exact (((hE.kept hS.2.1).moved hW).narrow hF)
theorem lc_ge {x y : Int64} {off : Int} {tgt : Nat} (hx : p.tables.exec = Jvm.exec) (hb : c.code = cc) (d1 : decode cc pc = .ok (.lcmp, 1)) (d2 : decode cc (pc + 1) = .ok (.ifCond .ge off, 3)) (ht : ((pc + 1 : Nat) : Int) + off = (tgt : Int)) (kt : y ≤ x → W p l e R s m args below meth c H locs cells slots Q (F0 m tgt ls rest)) (kf : ¬ y ≤ x → W p l e R s m args below meth c H locs cells slots Q (F0 m (pc + 1 + 3) ls rest)) : W p l e R s m args below meth c H locs cells slots Q (F0 m pc ls (.long y :: .long x :: rest)) := W.lcmp hx hb d1 (lv_if_ge hx hb d2 ht (fun h => kt ((lg_cmp_ge x y).mp h)) (fun h => kf (fun z => h ((lg_cmp_ge x y).mpr z))))
theorem lc_le {x y : Int64} {off : Int} {tgt : Nat} (hx : p.tables.exec = Jvm.exec) (hb : c.code = cc) (d1 : decode cc pc = .ok (.lcmp, 1)) (d2 : decode cc (pc + 1) = .ok (.ifCond .le off, 3)) (ht : ((pc + 1 : Nat) : Int) + off = (tgt : Int)) (kt : x ≤ y → W p l e R s m args below meth c H locs cells slots Q (F0 m tgt ls rest)) (kf : ¬ x ≤ y → W p l e R s m args below meth c H locs cells slots Q (F0 m (pc + 1 + 3) ls rest)) : W p l e R s m args below meth c H locs cells slots Q (F0 m pc ls (.long y :: .long x :: rest)) := W.lcmp hx hb d1 (lv_if_le hx hb d2 ht (fun h => kt ((lg_cmp_le x y).mp h)) (fun h => kf (fun z => h ((lg_cmp_le x y).mpr z))))
theorem lc_gt {x y : Int64} {off : Int} {tgt : Nat} (hx : p.tables.exec = Jvm.exec) (hb : c.code = cc) (d1 : decode cc pc = .ok (.lcmp, 1)) (d2 : decode cc (pc + 1) = .ok (.ifCond .gt off, 3)) (ht : ((pc + 1 : Nat) : Int) + off = (tgt : Int)) (kt : y < x → W p l e R s m args below meth c H locs cells slots Q (F0 m tgt ls rest)) (kf : ¬ y < x → W p l e R s m args below meth c H locs cells slots Q (F0 m (pc + 1 + 3) ls rest)) : W p l e R s m args below meth c H locs cells slots Q (F0 m pc ls (.long y :: .long x :: rest)) := W.lcmp hx hb d1 (lv_if_gt hx hb d2 ht (fun h => kt ((lg_cmp_gt x y).mp h)) (fun h => kf (fun z => h ((lg_cmp_gt x y).mpr z))))
theorem lc_lt {x y : Int64} {off : Int} {tgt : Nat} (hx : p.tables.exec = Jvm.exec) (hb : c.code = cc) (d1 : decode cc pc = .ok (.lcmp, 1)) (d2 : decode cc (pc + 1) = .ok (.ifCond .lt off, 3)) (ht : ((pc + 1 : Nat) : Int) + off = (tgt : Int)) (kt : x < y → W p l e R s m args below meth c H locs cells slots Q (F0 m tgt ls rest)) (kf : ¬ x < y → W p l e R s m args below meth c H locs cells slots Q (F0 m (pc + 1 + 3) ls rest)) : W p l e R s m args below meth c H locs cells slots Q (F0 m pc ls (.long y :: .long x :: rest)) := W.lcmp hx hb d1 (lv_if_lt hx hb d2 ht (fun h => kt ((lg_cmp_lt x y).mp h)) (fun h => kf (fun z => h ((lg_cmp_lt x y).mpr z))))
theorem lc_ne {x y : Int64} {off : Int} {tgt : Nat} (hx : p.tables.exec = Jvm.exec) (hb : c.code = cc) (d1 : decode cc pc = .ok (.lcmp, 1)) (d2 : decode cc (pc + 1) = .ok (.ifCond .ne off, 3)) (ht : ((pc + 1 : Nat) : Int) + off = (tgt : Int)) (kt : ¬ x = y → W p l e R s m args below meth c H locs cells slots Q (F0 m tgt ls rest)) (kf : x = y → W p l e R s m args below meth c H locs cells slots Q (F0 m (pc + 1 + 3) ls rest)) : W p l e R s m args below meth c H locs cells slots Q (F0 m pc ls (.long y :: .long x :: rest)) := W.lcmp hx hb d1 (lv_if_ne hx hb d2 ht (fun h => kt (fun z => h ((lg_cmp_eq x y).mpr z))) (fun h => kf ((lg_cmp_eq x y).mp h)))
theorem lc_eq {x y : Int64} {off : Int} {tgt : Nat} (hx : p.tables.exec = Jvm.exec) (hb : c.code = cc) (d1 : decode cc pc = .ok (.lcmp, 1)) (d2 : decode cc (pc + 1) = .ok (.ifCond .eq off, 3)) (ht : ((pc + 1 : Nat) : Int) + off = (tgt : Int)) (kt : x = y → W p l e R s m args below meth c H locs cells slots Q (F0 m tgt ls rest)) (kf : ¬ x = y → W p l e R s m args below meth c H locs cells slots Q (F0 m (pc + 1 + 3) ls rest)) : W p l e R s m args below meth c H locs cells slots Q (F0 m pc ls (.long y :: .long x :: rest)) := W.lcmp hx hb d1 (lv_if_eq hx hb d2 ht (fun h => kt ((lg_cmp_eq x y).mp h)) (fun h => kf (fun z => h ((lg_cmp_eq x y).mpr z))))
section RN
variable {y : MethodName} {cy : ByteArray} {n : Nat} {r : Option FieldType} {fr lo : Nat} {b : Nat} {As : List Value} {WS : va_W} {Qf : (Nat → Prop) → Array Value → State → Outcome → State → Prop} {index : Nat} {st0 : List Value}
theorem rn_V {C : String} {ci : Nat} {fs : List Value} {q : vw_C} (F : CallFix p m c cc nL s args BIG own) (hw : Wd g s A H locs ws) (hM : Ct g l y cy n r fr lo (.ref b :: As) WS Qf) (cw : CallW R s args own C index y cy n r (Cond.code y cy n r :: BIG) (rmm fr lo) 0 0 As.length) (ps : List Nat) (hnd : va_nd ps = true) (hC : ps.map (fun i => ws[i]?) = WS.map some) (q0 : Nat) (he : ws[q0]? = some (b, .inr (ci, fs))) (hci : vwCl[ci]? = some q) (hcn : q.1 = C) (hsz : ls.size = nL) (hst : st0 = As.reverse ++ .ref b :: rest) (hrest : (rest.map fun v => v.category).sum ≤ 8) (hdg : decode cc pc = .ok (.invokevirtual index, 3)) (hf : cells ≤ R.cells ∧ slots ≤ R.slots) : va_Run p l e R s m args below meth c H locs cells slots 0 0 (F0 m pc ls st0) rest (Qf (va_A WS H.size) (Value.ref b :: As).toArray) (va_A WS H.size) :=
  va_runV F (hM H.size) cw ⟨CP_blind, by have := va_recv hw.1 hw.2.1 hci he; rwa [hcn] at this, fun U hU hW => preU ps hw hnd hC U hU hW⟩ rfl rfl hsz hst (lv_room hrest) hdg hf
theorem rn_S (F : CallFix p m c cc nL s args BIG own) (hw : Wd g s A H locs ws) (hM : Ct g l y cy n r fr lo As WS Qf) (cw : CallB R s args own index y cy n r (Cond.code y cy n r :: BIG) (rmm fr lo) 0 0 As.length ∧ (Cond.static y).before args s = true) (ps : List Nat) (hnd : va_nd ps = true) (hC : ps.map (fun i => ws[i]?) = WS.map some) (hsz : ls.size = nL) (hst : st0 = As.reverse ++ rest) (hrest : (rest.map fun v => v.category).sum ≤ 8) (hdg : decode cc pc = .ok (.invokestatic index, 3)) (hf : cells ≤ R.cells ∧ slots ≤ R.slots) : va_Run p l e R s m args below meth c H locs cells slots 0 0 (F0 m pc ls st0) rest (Qf (va_A WS H.size) As.toArray) (va_A WS H.size) :=
  va_runS F (hM H.size) cw ⟨CP_blind, fun U hU hW => preU ps hw hnd hC U hU hW⟩ rfl rfl hsz hst (lv_room hrest) hdg hf
theorem rn_N {host : String} (F : CallFix p m c cc nL s args BIG own) (hw : Wd g s A H locs ws) (hM : Ct g l y cy n r fr lo As WS Qf) (cw : va_CN R s args own index y host cy n r (Cond.code y cy n r :: BIG) (rmm fr lo) 0 0 As.length ∧ (Cond.static y).before args s = true ∧ True) (ps : List Nat) (hnd : va_nd ps = true) (hC : ps.map (fun i => ws[i]?) = WS.map some) (hsz : ls.size = nL) (hst : st0 = As.reverse ++ rest) (hrest : (rest.map fun v => v.category).sum ≤ 8) (hdg : decode cc pc = .ok (.invokestatic index, 3)) (hf : cells ≤ R.cells ∧ slots ≤ R.slots) : va_Run p l e R s m args below meth c H locs cells slots 0 0 (F0 m pc ls st0) rest (Qf (va_A WS H.size) As.toArray) (va_A WS H.size) :=
  va_runSN F (hM H.size) cw ⟨CP_blind, fun U hU hW => preU ps hw hnd hC U hU hW⟩ rfl rfl hsz hst (lv_room hrest) hdg hf
theorem backW {w1 : va_W} {t : State} {H1 : Heap} {locs1 : List Loc} (ps : List Nat) (hw : Wd g s A H locs ws) (hC : ps.map (fun i => ws[i]?) = WS.map some) (hk : ∀ q : Nat, q < H.size → ¬ va_A WS H.size q → H1[q]? = H[q]?) (ht : t.heap = H1) (hP1 : va_P (gD g) vwCl w1 t.heap) (ha : w1.map Prod.fst = WS.map Prod.fst) (hS : va_S A s.heap H1 locs1) : Wd g s A H1 locs1 (sA ws ps w1) := by
  rw [ht] at hP1
  obtain ⟨h1, h2⟩ := va_joinS hw.2.1 hw.2.2.1 ps hC hk hP1 ha
  exact ⟨hw.1, h1, h2, hS, hw.2.2.2.2⟩
theorem cl_i {S : Type} {post : Int32 → S → Prop} {WS' : S → va_W} {av : Array Value} (hw : Wd g s A H locs ws) (ps : List Nat) (hC : ps.map (fun i => ws[i]?) = WS.map some) (hr : va_Run p l e R s m args below meth c H locs cells slots 0 0 (F0 m pc ls st0) rest (Ri g post WS' (va_A WS H.size) av) (va_A WS H.size)) (ha : ∀ u, (WS' u).map Prod.fst = WS.map Prod.fst)
    (kk : ∀ (v : Int32) (u : S) (H1 : Heap) (locs1 : List Loc), post v u → Wd g s A H1 locs1 (sA ws ps (WS' u)) → W p l e R s m args below meth c H1 locs1 cells slots Q (F0 m (pc + 3) ls (.int v :: rest))) : W p l e R s m args below meth c H locs cells slots Q (F0 m pc ls st0) :=
  va_calli hr hw.2.2.2.1 (fun q _ h => va_free hw.2.2.1 hw.2.2.2.1 hw.2.2.2.2.2 ps hC q h) (va_free hw.2.2.1 hw.2.2.2.1 hw.2.2.2.2.2 ps hC) (fun v u t H1 l1 ht _ hp hB _ hk hS => kk v u H1 l1 hp (backW ps hw hC hk ht hB.1 (ha u) hS))
theorem cl_l {S : Type} {post : Int64 → S → Prop} {WS' : S → va_W} {av : Array Value} (hw : Wd g s A H locs ws) (ps : List Nat) (hC : ps.map (fun i => ws[i]?) = WS.map some) (hr : va_Run p l e R s m args below meth c H locs cells slots 0 0 (F0 m pc ls st0) rest (Rl g post WS' (va_A WS H.size) av) (va_A WS H.size)) (ha : ∀ u, (WS' u).map Prod.fst = WS.map Prod.fst)
    (kk : ∀ (v : Int64) (u : S) (H1 : Heap) (locs1 : List Loc), post v u → Wd g s A H1 locs1 (sA ws ps (WS' u)) → W p l e R s m args below meth c H1 locs1 cells slots Q (F0 m (pc + 3) ls (.long v :: rest))) : W p l e R s m args below meth c H locs cells slots Q (F0 m pc ls st0) :=
  va_calll hr hw.2.2.2.1 (fun q _ h => va_free hw.2.2.1 hw.2.2.2.1 hw.2.2.2.2.2 ps hC q h) (va_free hw.2.2.1 hw.2.2.2.1 hw.2.2.2.2.2 ps hC) (fun v u t H1 l1 ht _ hp hB _ hk hS => kk v u H1 l1 hp (backW ps hw hC hk ht hB.1 (ha u) hS))
theorem cl_v {S : Type} {post : S → Prop} {WS' : S → va_W} {av : Array Value} (hw : Wd g s A H locs ws) (ps : List Nat) (hC : ps.map (fun i => ws[i]?) = WS.map some) (hr : va_Run p l e R s m args below meth c H locs cells slots 0 0 (F0 m pc ls st0) rest (Rv g post WS' (va_A WS H.size) av) (va_A WS H.size)) (ha : ∀ u, (WS' u).map Prod.fst = WS.map Prod.fst)
    (kk : ∀ (u : S) (H1 : Heap) (locs1 : List Loc), post u → Wd g s A H1 locs1 (sA ws ps (WS' u)) → W p l e R s m args below meth c H1 locs1 cells slots Q (F0 m (pc + 3) ls rest)) : W p l e R s m args below meth c H locs cells slots Q (F0 m pc ls st0) :=
  va_callv hr hw.2.2.2.1 (fun q _ h => va_free hw.2.2.1 hw.2.2.2.1 hw.2.2.2.2.2 ps hC q h) (va_free hw.2.2.1 hw.2.2.2.1 hw.2.2.2.2.2 ps hC) (fun u t H1 l1 ht _ hp hB _ hk hS => kk u H1 l1 hp (backW ps hw hC hk ht hB.1 (ha u) hS))
theorem cl_q {S : Type} {post : Option Nat → S → Prop} {WS' : S → va_W} {av : Array Value} (hw : Wd g s A H locs ws) (ps : List Nat) (hC : ps.map (fun i => ws[i]?) = WS.map some) (hr : va_Run p l e R s m args below meth c H locs cells slots 0 0 (F0 m pc ls st0) rest (Rq g post WS' (va_A WS H.size) av) (va_A WS H.size)) (ha : ∀ u, (WS' u).map Prod.fst = WS.map Prod.fst)
    (kk : ∀ (v : Option Nat) (u : S) (H1 : Heap) (locs1 : List Loc), post v u → Wd g s A H1 locs1 (sA ws ps (WS' u)) → W p l e R s m args below meth c H1 locs1 cells slots Q (F0 m (pc + 3) ls (va_rf v :: rest))) : W p l e R s m args below meth c H locs cells slots Q (F0 m pc ls st0) :=
  va_callq hr hw.2.2.2.1 (fun q _ h => va_free hw.2.2.1 hw.2.2.2.1 hw.2.2.2.2.2 ps hC q h) (va_free hw.2.2.1 hw.2.2.2.1 hw.2.2.2.2.2 ps hC) (fun v u t H1 l1 ht _ hp hB _ hk hS => kk v u H1 l1 hp (backW ps hw hC hk ht hB.1 (ha u) hS))
end RN
end RU
end
section
section LK
variable {p : Program} {l : Launch} {e : Env} {R : Room} {s : State} {m : MethodId} {args : Array Value} {below : List Frame} {meth : Method} {c : Code} {H : Heap} {locs : List Loc} {cells slots : Nat} {Q : State → Prop} {g : GG} {A : Nat → Prop} {ws : va_W} {cc : ByteArray} {nL : Nat} {own : String} {pc : Nat} {ls : Array Slot} {rest : List Value} {a : Nat} {fs : List Value} {v : Value}
theorem gf_X0_9 (S : CallFix p m c cc nL s args BIG RX0) (hw : Wd g s A H locs ws) (q0 : Nat) (he : ws[q0]? = some (a, .inr (4, fs))) (hv : fs[1]? = some v) (hdg : decode cc pc = .ok (.getfield 9, 3)) (kk : W p l e R s m args below meth c H locs cells slots Q (F0 m (pc + 3) ls (v :: rest))) : W p l e R s m args below meth c H locs cells slots Q (F0 m pc ls (.ref a :: rest)) :=
  va_getN (D := gD g) (C := RX5) (T := TX5) (N := 2) S.1 S.2.1 S.2.2.2.2 inlX5 S.2.2.2.1 hw.1 hw.2.1 q0 he rfl 1 (by decide) (va_Nw.use rfl (hw.2.2.2.2.1.1 _ (List.mem_of_getElem? (i := 8) rfl))) (fun _ h9 => h9) hv hdg kk
theorem pf_X0_9 (S : CallFix p m c cc nL s args BIG RX0) (hw : Wd g s A H locs ws) (q0 : Nat) (he : ws[q0]? = some (a, .inr (4, fs))) (hl : 1 < fs.length) (hn : narrow .int v = v) (hfit : fits .int v = true) (hdg : decode cc pc = .ok (.putfield 9, 3)) (kk : ∀ (H1 : Heap) (locs1 : List Loc), Wd g s A H1 locs1 (ws.set q0 (a, .inr (4, fs.set 1 v))) → W p l e R s m args below meth c H1 locs1 cells slots Q (F0 m (pc + 3) ls rest)) : W p l e R s m args below meth c H locs cells slots Q (F0 m pc ls (v :: .ref a :: rest)) :=
  va_putN (D := gD g) (C := RX5) (T := TX5) (N := 2) S.1 S.2.1 S.2.2.2.2 inlX5 tyX5 tyX5_ok nmX5 S.2.2.2.1 hw.1 hw.2.1 hw.2.2.1 hw.2.2.2.1 q0 he rfl 1 (by decide) (va_Nw.use rfl (hw.2.2.2.2.1.1 _ (List.mem_of_getElem? (i := 8) rfl))) (fun _ h9 => h9) rfl (by decide +kernel) hn hfit hl hdg (fun H1 l1 h1 h2 h3 => kk H1 l1 ⟨hw.1, h1, h2, h3, hw.2.2.2.2⟩)
theorem gf_X0_33 (S : CallFix p m c cc nL s args BIG RX0) (hw : Wd g s A H locs ws) (q0 : Nat) (he : ws[q0]? = some (a, .inr (4, fs))) (hv : fs[0]? = some v) (hdg : decode cc pc = .ok (.getfield 33, 3)) (kk : W p l e R s m args below meth c H locs cells slots Q (F0 m (pc + 3) ls (v :: rest))) : W p l e R s m args below meth c H locs cells slots Q (F0 m pc ls (.ref a :: rest)) :=
  va_getN (D := gD g) (C := RX5) (T := TX5) (N := 2) S.1 S.2.1 S.2.2.2.2 inlX5 S.2.2.2.1 hw.1 hw.2.1 q0 he rfl 0 (by decide) (va_Nw.use rfl (hw.2.2.2.2.1.1 _ (List.mem_of_getElem? (i := 7) rfl))) (fun _ h9 => h9) hv hdg kk
theorem gf_X1_9 (S : CallFix p m c cc nL s args BIG RX1) (hw : Wd g s A H locs ws) (q0 : Nat) (he : ws[q0]? = some (a, .inr (0, fs))) (hv : fs[0]? = some v) (hdg : decode cc pc = .ok (.getfield 9, 3)) (kk : W p l e R s m args below meth c H locs cells slots Q (F0 m (pc + 3) ls (v :: rest))) : W p l e R s m args below meth c H locs cells slots Q (F0 m pc ls (.ref a :: rest)) :=
  va_get (D := gD g) (C := RX1) (T := TX1) (N := 3) S.1 S.2.1 S.2.2.2.2 inlX1 S.2.2.2.1 hw.1 hw.2.1 q0 he rfl 0 (by decide) (S.2.2.2.2 _ bg_3_22) (fun _ h9 => h9) hv hdg kk
theorem gf_X1_13 (S : CallFix p m c cc nL s args BIG RX1) (hw : Wd g s A H locs ws) (q0 : Nat) (he : ws[q0]? = some (a, .inr (0, fs))) (hv : fs[1]? = some v) (hdg : decode cc pc = .ok (.getfield 13, 3)) (kk : W p l e R s m args below meth c H locs cells slots Q (F0 m (pc + 3) ls (v :: rest))) : W p l e R s m args below meth c H locs cells slots Q (F0 m pc ls (.ref a :: rest)) :=
  va_get (D := gD g) (C := RX1) (T := TX1) (N := 3) S.1 S.2.1 S.2.2.2.2 inlX1 S.2.2.2.1 hw.1 hw.2.1 q0 he rfl 1 (by decide) (S.2.2.2.2 _ bg_3_23) (fun _ h9 => h9) hv hdg kk
theorem pf_X1_13 (S : CallFix p m c cc nL s args BIG RX1) (hw : Wd g s A H locs ws) (q0 : Nat) (he : ws[q0]? = some (a, .inr (0, fs))) (hl : 1 < fs.length) (hn : narrow .int v = v) (hfit : fits .int v = true) (hdg : decode cc pc = .ok (.putfield 13, 3)) (kk : ∀ (H1 : Heap) (locs1 : List Loc), Wd g s A H1 locs1 (ws.set q0 (a, .inr (0, fs.set 1 v))) → W p l e R s m args below meth c H1 locs1 cells slots Q (F0 m (pc + 3) ls rest)) : W p l e R s m args below meth c H locs cells slots Q (F0 m pc ls (v :: .ref a :: rest)) :=
  va_put (D := gD g) (C := RX1) (T := TX1) (N := 3) S.1 S.2.1 S.2.2.2.2 inlX1 tyX1 tyX1_ok nmX1 S.2.2.2.1 hw.1 hw.2.1 hw.2.2.1 hw.2.2.2.1 q0 he rfl 1 (by decide) (S.2.2.2.2 _ bg_3_23) (fun _ h9 => h9) rfl (by decide +kernel) hn hfit hl hdg (fun H1 l1 h1 h2 h3 => kk H1 l1 ⟨hw.1, h1, h2, h3, hw.2.2.2.2⟩)
theorem gf_X1_17 (S : CallFix p m c cc nL s args BIG RX1) (hw : Wd g s A H locs ws) (q0 : Nat) (he : ws[q0]? = some (a, .inr (0, fs))) (hv : fs[2]? = some v) (hdg : decode cc pc = .ok (.getfield 17, 3)) (kk : W p l e R s m args below meth c H locs cells slots Q (F0 m (pc + 3) ls (v :: rest))) : W p l e R s m args below meth c H locs cells slots Q (F0 m pc ls (.ref a :: rest)) :=
  va_get (D := gD g) (C := RX1) (T := TX1) (N := 3) S.1 S.2.1 S.2.2.2.2 inlX1 S.2.2.2.1 hw.1 hw.2.1 q0 he rfl 2 (by decide) (S.2.2.2.2 _ bg_4_0) (fun _ h9 => h9) hv hdg kk
theorem pf_X1_17 (S : CallFix p m c cc nL s args BIG RX1) (hw : Wd g s A H locs ws) (q0 : Nat) (he : ws[q0]? = some (a, .inr (0, fs))) (hl : 2 < fs.length) (hn : narrow .long v = v) (hfit : fits .long v = true) (hdg : decode cc pc = .ok (.putfield 17, 3)) (kk : ∀ (H1 : Heap) (locs1 : List Loc), Wd g s A H1 locs1 (ws.set q0 (a, .inr (0, fs.set 2 v))) → W p l e R s m args below meth c H1 locs1 cells slots Q (F0 m (pc + 3) ls rest)) : W p l e R s m args below meth c H locs cells slots Q (F0 m pc ls (v :: .ref a :: rest)) :=
  va_put (D := gD g) (C := RX1) (T := TX1) (N := 3) S.1 S.2.1 S.2.2.2.2 inlX1 tyX1 tyX1_ok nmX1 S.2.2.2.1 hw.1 hw.2.1 hw.2.2.1 hw.2.2.2.1 q0 he rfl 2 (by decide) (S.2.2.2.2 _ bg_4_0) (fun _ h9 => h9) rfl (by decide +kernel) hn hfit hl hdg (fun H1 l1 h1 h2 h3 => kk H1 l1 ⟨hw.1, h1, h2, h3, hw.2.2.2.2⟩)
theorem gf_X2_11 (S : CallFix p m c cc nL s args BIG RX2) (hw : Wd g s A H locs ws) (q0 : Nat) (he : ws[q0]? = some (a, .inr (1, fs))) (hv : fs[0]? = some v) (hdg : decode cc pc = .ok (.getfield 11, 3)) (kk : W p l e R s m args below meth c H locs cells slots Q (F0 m (pc + 3) ls (v :: rest))) : W p l e R s m args below meth c H locs cells slots Q (F0 m pc ls (.ref a :: rest)) :=
  va_get (D := gD g) (C := RX2) (T := TX2) (N := 3) S.1 S.2.1 S.2.2.2.2 inlX2 S.2.2.2.1 hw.1 hw.2.1 q0 he rfl 0 (by decide) (S.2.2.2.2 _ bg_3_14) (fun _ h9 => h9) hv hdg kk
theorem gf_X2_15 (S : CallFix p m c cc nL s args BIG RX2) (hw : Wd g s A H locs ws) (q0 : Nat) (he : ws[q0]? = some (a, .inr (1, fs))) (hv : fs[1]? = some v) (hdg : decode cc pc = .ok (.getfield 15, 3)) (kk : W p l e R s m args below meth c H locs cells slots Q (F0 m (pc + 3) ls (v :: rest))) : W p l e R s m args below meth c H locs cells slots Q (F0 m pc ls (.ref a :: rest)) :=
  va_get (D := gD g) (C := RX2) (T := TX2) (N := 3) S.1 S.2.1 S.2.2.2.2 inlX2 S.2.2.2.1 hw.1 hw.2.1 q0 he rfl 1 (by decide) (S.2.2.2.2 _ bg_3_15) (fun _ h9 => h9) hv hdg kk
theorem pf_X2_15 (S : CallFix p m c cc nL s args BIG RX2) (hw : Wd g s A H locs ws) (q0 : Nat) (he : ws[q0]? = some (a, .inr (1, fs))) (hl : 1 < fs.length) (hn : narrow .int v = v) (hfit : fits .int v = true) (hdg : decode cc pc = .ok (.putfield 15, 3)) (kk : ∀ (H1 : Heap) (locs1 : List Loc), Wd g s A H1 locs1 (ws.set q0 (a, .inr (1, fs.set 1 v))) → W p l e R s m args below meth c H1 locs1 cells slots Q (F0 m (pc + 3) ls rest)) : W p l e R s m args below meth c H locs cells slots Q (F0 m pc ls (v :: .ref a :: rest)) :=
  va_put (D := gD g) (C := RX2) (T := TX2) (N := 3) S.1 S.2.1 S.2.2.2.2 inlX2 tyX2 tyX2_ok nmX2 S.2.2.2.1 hw.1 hw.2.1 hw.2.2.1 hw.2.2.2.1 q0 he rfl 1 (by decide) (S.2.2.2.2 _ bg_3_15) (fun _ h9 => h9) rfl (by decide +kernel) hn hfit hl hdg (fun H1 l1 h1 h2 h3 => kk H1 l1 ⟨hw.1, h1, h2, h3, hw.2.2.2.2⟩)
theorem gf_X2_19 (S : CallFix p m c cc nL s args BIG RX2) (hw : Wd g s A H locs ws) (q0 : Nat) (he : ws[q0]? = some (a, .inr (1, fs))) (hv : fs[2]? = some v) (hdg : decode cc pc = .ok (.getfield 19, 3)) (kk : W p l e R s m args below meth c H locs cells slots Q (F0 m (pc + 3) ls (v :: rest))) : W p l e R s m args below meth c H locs cells slots Q (F0 m pc ls (.ref a :: rest)) :=
  va_get (D := gD g) (C := RX2) (T := TX2) (N := 3) S.1 S.2.1 S.2.2.2.2 inlX2 S.2.2.2.1 hw.1 hw.2.1 q0 he rfl 2 (by decide) (S.2.2.2.2 _ bg_3_16) (fun _ h9 => h9) hv hdg kk
theorem pf_X2_19 (S : CallFix p m c cc nL s args BIG RX2) (hw : Wd g s A H locs ws) (q0 : Nat) (he : ws[q0]? = some (a, .inr (1, fs))) (hl : 2 < fs.length) (hn : narrow .int v = v) (hfit : fits .int v = true) (hdg : decode cc pc = .ok (.putfield 19, 3)) (kk : ∀ (H1 : Heap) (locs1 : List Loc), Wd g s A H1 locs1 (ws.set q0 (a, .inr (1, fs.set 2 v))) → W p l e R s m args below meth c H1 locs1 cells slots Q (F0 m (pc + 3) ls rest)) : W p l e R s m args below meth c H locs cells slots Q (F0 m pc ls (v :: .ref a :: rest)) :=
  va_put (D := gD g) (C := RX2) (T := TX2) (N := 3) S.1 S.2.1 S.2.2.2.2 inlX2 tyX2 tyX2_ok nmX2 S.2.2.2.1 hw.1 hw.2.1 hw.2.2.1 hw.2.2.2.1 q0 he rfl 2 (by decide) (S.2.2.2.2 _ bg_3_16) (fun _ h9 => h9) rfl (by decide +kernel) hn hfit hl hdg (fun H1 l1 h1 h2 h3 => kk H1 l1 ⟨hw.1, h1, h2, h3, hw.2.2.2.2⟩)
theorem gf_X2_23 (S : CallFix p m c cc nL s args BIG RX2) (hw : Wd g s A H locs ws) (q0 : Nat) (he : ws[q0]? = some (a, .inr (0, fs))) (hv : fs[2]? = some v) (hdg : decode cc pc = .ok (.getfield 23, 3)) (kk : W p l e R s m args below meth c H locs cells slots Q (F0 m (pc + 3) ls (v :: rest))) : W p l e R s m args below meth c H locs cells slots Q (F0 m pc ls (.ref a :: rest)) :=
  va_getN (D := gD g) (C := RX1) (T := TX1) (N := 3) S.1 S.2.1 S.2.2.2.2 inlX1 S.2.2.2.1 hw.1 hw.2.1 q0 he rfl 2 (by decide) (va_Nw.use rfl (hw.2.2.2.2.1.1 _ (List.mem_of_getElem? (i := 9) rfl))) (fun _ h9 => h9) hv hdg kk
theorem pf_X2_23 (S : CallFix p m c cc nL s args BIG RX2) (hw : Wd g s A H locs ws) (q0 : Nat) (he : ws[q0]? = some (a, .inr (0, fs))) (hl : 2 < fs.length) (hn : narrow .long v = v) (hfit : fits .long v = true) (hdg : decode cc pc = .ok (.putfield 23, 3)) (kk : ∀ (H1 : Heap) (locs1 : List Loc), Wd g s A H1 locs1 (ws.set q0 (a, .inr (0, fs.set 2 v))) → W p l e R s m args below meth c H1 locs1 cells slots Q (F0 m (pc + 3) ls rest)) : W p l e R s m args below meth c H locs cells slots Q (F0 m pc ls (v :: .ref a :: rest)) :=
  va_putN (D := gD g) (C := RX1) (T := TX1) (N := 3) S.1 S.2.1 S.2.2.2.2 inlX1 tyX1 tyX1_ok nmX1 S.2.2.2.1 hw.1 hw.2.1 hw.2.2.1 hw.2.2.2.1 q0 he rfl 2 (by decide) (va_Nw.use rfl (hw.2.2.2.2.1.1 _ (List.mem_of_getElem? (i := 9) rfl))) (fun _ h9 => h9) rfl (by decide +kernel) hn hfit hl hdg (fun H1 l1 h1 h2 h3 => kk H1 l1 ⟨hw.1, h1, h2, h3, hw.2.2.2.2⟩)
theorem gf_X2_27 (S : CallFix p m c cc nL s args BIG RX2) (hw : Wd g s A H locs ws) (q0 : Nat) (he : ws[q0]? = some (a, .inr (0, fs))) (hv : fs[1]? = some v) (hdg : decode cc pc = .ok (.getfield 27, 3)) (kk : W p l e R s m args below meth c H locs cells slots Q (F0 m (pc + 3) ls (v :: rest))) : W p l e R s m args below meth c H locs cells slots Q (F0 m pc ls (.ref a :: rest)) :=
  va_getN (D := gD g) (C := RX1) (T := TX1) (N := 3) S.1 S.2.1 S.2.2.2.2 inlX1 S.2.2.2.1 hw.1 hw.2.1 q0 he rfl 1 (by decide) (va_Nw.use rfl (hw.2.2.2.2.1.1 _ (List.mem_of_getElem? (i := 10) rfl))) (fun _ h9 => h9) hv hdg kk
theorem pf_X2_27 (S : CallFix p m c cc nL s args BIG RX2) (hw : Wd g s A H locs ws) (q0 : Nat) (he : ws[q0]? = some (a, .inr (0, fs))) (hl : 1 < fs.length) (hn : narrow .int v = v) (hfit : fits .int v = true) (hdg : decode cc pc = .ok (.putfield 27, 3)) (kk : ∀ (H1 : Heap) (locs1 : List Loc), Wd g s A H1 locs1 (ws.set q0 (a, .inr (0, fs.set 1 v))) → W p l e R s m args below meth c H1 locs1 cells slots Q (F0 m (pc + 3) ls rest)) : W p l e R s m args below meth c H locs cells slots Q (F0 m pc ls (v :: .ref a :: rest)) :=
  va_putN (D := gD g) (C := RX1) (T := TX1) (N := 3) S.1 S.2.1 S.2.2.2.2 inlX1 tyX1 tyX1_ok nmX1 S.2.2.2.1 hw.1 hw.2.1 hw.2.2.1 hw.2.2.2.1 q0 he rfl 1 (by decide) (va_Nw.use rfl (hw.2.2.2.2.1.1 _ (List.mem_of_getElem? (i := 10) rfl))) (fun _ h9 => h9) rfl (by decide +kernel) hn hfit hl hdg (fun H1 l1 h1 h2 h3 => kk H1 l1 ⟨hw.1, h1, h2, h3, hw.2.2.2.2⟩)
theorem gf_X3_9 (S : CallFix p m c cc nL s args BIG RX3) (hw : Wd g s A H locs ws) (q0 : Nat) (he : ws[q0]? = some (a, .inr (2, fs))) (hv : fs[0]? = some v) (hdg : decode cc pc = .ok (.getfield 9, 3)) (kk : W p l e R s m args below meth c H locs cells slots Q (F0 m (pc + 3) ls (v :: rest))) : W p l e R s m args below meth c H locs cells slots Q (F0 m pc ls (.ref a :: rest)) :=
  va_get (D := gD g) (C := RX3) (T := TX3) (N := 4) S.1 S.2.1 S.2.2.2.2 inlX3 S.2.2.2.1 hw.1 hw.2.1 q0 he rfl 0 (by decide) (S.2.2.2.2 _ bg_3_5) (fun _ h9 => h9) hv hdg kk
theorem gf_X3_13 (S : CallFix p m c cc nL s args BIG RX3) (hw : Wd g s A H locs ws) (q0 : Nat) (he : ws[q0]? = some (a, .inr (2, fs))) (hv : fs[1]? = some v) (hdg : decode cc pc = .ok (.getfield 13, 3)) (kk : W p l e R s m args below meth c H locs cells slots Q (F0 m (pc + 3) ls (v :: rest))) : W p l e R s m args below meth c H locs cells slots Q (F0 m pc ls (.ref a :: rest)) :=
  va_get (D := gD g) (C := RX3) (T := TX3) (N := 4) S.1 S.2.1 S.2.2.2.2 inlX3 S.2.2.2.1 hw.1 hw.2.1 q0 he rfl 1 (by decide) (S.2.2.2.2 _ bg_3_6) (fun _ h9 => h9) hv hdg kk
theorem gf_X3_16 (S : CallFix p m c cc nL s args BIG RX3) (hw : Wd g s A H locs ws) (q0 : Nat) (he : ws[q0]? = some (a, .inr (2, fs))) (hv : fs[2]? = some v) (hdg : decode cc pc = .ok (.getfield 16, 3)) (kk : W p l e R s m args below meth c H locs cells slots Q (F0 m (pc + 3) ls (v :: rest))) : W p l e R s m args below meth c H locs cells slots Q (F0 m pc ls (.ref a :: rest)) :=
  va_get (D := gD g) (C := RX3) (T := TX3) (N := 4) S.1 S.2.1 S.2.2.2.2 inlX3 S.2.2.2.1 hw.1 hw.2.1 q0 he rfl 2 (by decide) (S.2.2.2.2 _ bg_3_7) (fun _ h9 => h9) hv hdg kk
theorem gf_X3_19 (S : CallFix p m c cc nL s args BIG RX3) (hw : Wd g s A H locs ws) (q0 : Nat) (he : ws[q0]? = some (a, .inr (2, fs))) (hv : fs[3]? = some v) (hdg : decode cc pc = .ok (.getfield 19, 3)) (kk : W p l e R s m args below meth c H locs cells slots Q (F0 m (pc + 3) ls (v :: rest))) : W p l e R s m args below meth c H locs cells slots Q (F0 m pc ls (.ref a :: rest)) :=
  va_get (D := gD g) (C := RX3) (T := TX3) (N := 4) S.1 S.2.1 S.2.2.2.2 inlX3 S.2.2.2.1 hw.1 hw.2.1 q0 he rfl 3 (by decide) (S.2.2.2.2 _ bg_3_8) (fun _ h9 => h9) hv hdg kk
theorem gf_X4_7 (S : CallFix p m c cc nL s args BIG RX4) (hw : Wd g s A H locs ws) (q0 : Nat) (he : ws[q0]? = some (a, .inr (3, fs))) (hv : fs[0]? = some v) (hdg : decode cc pc = .ok (.getfield 7, 3)) (kk : W p l e R s m args below meth c H locs cells slots Q (F0 m (pc + 3) ls (v :: rest))) : W p l e R s m args below meth c H locs cells slots Q (F0 m pc ls (.ref a :: rest)) :=
  va_get (D := gD g) (C := RX4) (T := TX4) (N := 5) S.1 S.2.1 S.2.2.2.2 inlX4 S.2.2.2.1 hw.1 hw.2.1 q0 he rfl 0 (by decide) (S.2.2.2.2 _ bg_4_15) (fun _ h9 => h9) hv hdg kk
theorem pf_X4_7 (S : CallFix p m c cc nL s args BIG RX4) (hw : Wd g s A H locs ws) (q0 : Nat) (he : ws[q0]? = some (a, .inr (3, fs))) (hl : 0 < fs.length) (hn : narrow .boolean v = v) (hfit : fits .boolean v = true) (hdg : decode cc pc = .ok (.putfield 7, 3)) (kk : ∀ (H1 : Heap) (locs1 : List Loc), Wd g s A H1 locs1 (ws.set q0 (a, .inr (3, fs.set 0 v))) → W p l e R s m args below meth c H1 locs1 cells slots Q (F0 m (pc + 3) ls rest)) : W p l e R s m args below meth c H locs cells slots Q (F0 m pc ls (v :: .ref a :: rest)) :=
  va_put (D := gD g) (C := RX4) (T := TX4) (N := 5) S.1 S.2.1 S.2.2.2.2 inlX4 tyX4 tyX4_ok nmX4 S.2.2.2.1 hw.1 hw.2.1 hw.2.2.1 hw.2.2.2.1 q0 he rfl 0 (by decide) (S.2.2.2.2 _ bg_4_15) (fun _ h9 => h9) rfl (by decide +kernel) hn hfit hl hdg (fun H1 l1 h1 h2 h3 => kk H1 l1 ⟨hw.1, h1, h2, h3, hw.2.2.2.2⟩)
theorem gf_X4_13 (S : CallFix p m c cc nL s args BIG RX4) (hw : Wd g s A H locs ws) (q0 : Nat) (he : ws[q0]? = some (a, .inr (3, fs))) (hv : fs[1]? = some v) (hdg : decode cc pc = .ok (.getfield 13, 3)) (kk : W p l e R s m args below meth c H locs cells slots Q (F0 m (pc + 3) ls (v :: rest))) : W p l e R s m args below meth c H locs cells slots Q (F0 m pc ls (.ref a :: rest)) :=
  va_get (D := gD g) (C := RX4) (T := TX4) (N := 5) S.1 S.2.1 S.2.2.2.2 inlX4 S.2.2.2.1 hw.1 hw.2.1 q0 he rfl 1 (by decide) (S.2.2.2.2 _ bg_4_16) (fun _ h9 => h9) hv hdg kk
theorem pf_X4_13 (S : CallFix p m c cc nL s args BIG RX4) (hw : Wd g s A H locs ws) (q0 : Nat) (he : ws[q0]? = some (a, .inr (3, fs))) (hl : 1 < fs.length) (hn : narrow .int v = v) (hfit : fits .int v = true) (hdg : decode cc pc = .ok (.putfield 13, 3)) (kk : ∀ (H1 : Heap) (locs1 : List Loc), Wd g s A H1 locs1 (ws.set q0 (a, .inr (3, fs.set 1 v))) → W p l e R s m args below meth c H1 locs1 cells slots Q (F0 m (pc + 3) ls rest)) : W p l e R s m args below meth c H locs cells slots Q (F0 m pc ls (v :: .ref a :: rest)) :=
  va_put (D := gD g) (C := RX4) (T := TX4) (N := 5) S.1 S.2.1 S.2.2.2.2 inlX4 tyX4 tyX4_ok nmX4 S.2.2.2.1 hw.1 hw.2.1 hw.2.2.1 hw.2.2.2.1 q0 he rfl 1 (by decide) (S.2.2.2.2 _ bg_4_16) (fun _ h9 => h9) rfl (by decide +kernel) hn hfit hl hdg (fun H1 l1 h1 h2 h3 => kk H1 l1 ⟨hw.1, h1, h2, h3, hw.2.2.2.2⟩)
theorem gf_X4_17 (S : CallFix p m c cc nL s args BIG RX4) (hw : Wd g s A H locs ws) (q0 : Nat) (he : ws[q0]? = some (a, .inr (3, fs))) (hv : fs[2]? = some v) (hdg : decode cc pc = .ok (.getfield 17, 3)) (kk : W p l e R s m args below meth c H locs cells slots Q (F0 m (pc + 3) ls (v :: rest))) : W p l e R s m args below meth c H locs cells slots Q (F0 m pc ls (.ref a :: rest)) :=
  va_get (D := gD g) (C := RX4) (T := TX4) (N := 5) S.1 S.2.1 S.2.2.2.2 inlX4 S.2.2.2.1 hw.1 hw.2.1 q0 he rfl 2 (by decide) (S.2.2.2.2 _ bg_4_17) (fun _ h9 => h9) hv hdg kk
theorem pf_X4_17 (S : CallFix p m c cc nL s args BIG RX4) (hw : Wd g s A H locs ws) (q0 : Nat) (he : ws[q0]? = some (a, .inr (3, fs))) (hl : 2 < fs.length) (hn : narrow .long v = v) (hfit : fits .long v = true) (hdg : decode cc pc = .ok (.putfield 17, 3)) (kk : ∀ (H1 : Heap) (locs1 : List Loc), Wd g s A H1 locs1 (ws.set q0 (a, .inr (3, fs.set 2 v))) → W p l e R s m args below meth c H1 locs1 cells slots Q (F0 m (pc + 3) ls rest)) : W p l e R s m args below meth c H locs cells slots Q (F0 m pc ls (v :: .ref a :: rest)) :=
  va_put (D := gD g) (C := RX4) (T := TX4) (N := 5) S.1 S.2.1 S.2.2.2.2 inlX4 tyX4 tyX4_ok nmX4 S.2.2.2.1 hw.1 hw.2.1 hw.2.2.1 hw.2.2.2.1 q0 he rfl 2 (by decide) (S.2.2.2.2 _ bg_4_17) (fun _ h9 => h9) rfl (by decide +kernel) hn hfit hl hdg (fun H1 l1 h1 h2 h3 => kk H1 l1 ⟨hw.1, h1, h2, h3, hw.2.2.2.2⟩)
theorem gf_X4_21 (S : CallFix p m c cc nL s args BIG RX4) (hw : Wd g s A H locs ws) (q0 : Nat) (he : ws[q0]? = some (a, .inr (3, fs))) (hv : fs[3]? = some v) (hdg : decode cc pc = .ok (.getfield 21, 3)) (kk : W p l e R s m args below meth c H locs cells slots Q (F0 m (pc + 3) ls (v :: rest))) : W p l e R s m args below meth c H locs cells slots Q (F0 m pc ls (.ref a :: rest)) :=
  va_get (D := gD g) (C := RX4) (T := TX4) (N := 5) S.1 S.2.1 S.2.2.2.2 inlX4 S.2.2.2.1 hw.1 hw.2.1 q0 he rfl 3 (by decide) (S.2.2.2.2 _ bg_4_18) (fun _ h9 => h9) hv hdg kk
theorem pf_X4_21 (S : CallFix p m c cc nL s args BIG RX4) (hw : Wd g s A H locs ws) (q0 : Nat) (he : ws[q0]? = some (a, .inr (3, fs))) (hl : 3 < fs.length) (hn : narrow .long v = v) (hfit : fits .long v = true) (hdg : decode cc pc = .ok (.putfield 21, 3)) (kk : ∀ (H1 : Heap) (locs1 : List Loc), Wd g s A H1 locs1 (ws.set q0 (a, .inr (3, fs.set 3 v))) → W p l e R s m args below meth c H1 locs1 cells slots Q (F0 m (pc + 3) ls rest)) : W p l e R s m args below meth c H locs cells slots Q (F0 m pc ls (v :: .ref a :: rest)) :=
  va_put (D := gD g) (C := RX4) (T := TX4) (N := 5) S.1 S.2.1 S.2.2.2.2 inlX4 tyX4 tyX4_ok nmX4 S.2.2.2.1 hw.1 hw.2.1 hw.2.2.1 hw.2.2.2.1 q0 he rfl 3 (by decide) (S.2.2.2.2 _ bg_4_18) (fun _ h9 => h9) rfl (by decide +kernel) hn hfit hl hdg (fun H1 l1 h1 h2 h3 => kk H1 l1 ⟨hw.1, h1, h2, h3, hw.2.2.2.2⟩)
theorem gf_X4_24 (S : CallFix p m c cc nL s args BIG RX4) (hw : Wd g s A H locs ws) (q0 : Nat) (he : ws[q0]? = some (a, .inr (3, fs))) (hv : fs[4]? = some v) (hdg : decode cc pc = .ok (.getfield 24, 3)) (kk : W p l e R s m args below meth c H locs cells slots Q (F0 m (pc + 3) ls (v :: rest))) : W p l e R s m args below meth c H locs cells slots Q (F0 m pc ls (.ref a :: rest)) :=
  va_get (D := gD g) (C := RX4) (T := TX4) (N := 5) S.1 S.2.1 S.2.2.2.2 inlX4 S.2.2.2.1 hw.1 hw.2.1 q0 he rfl 4 (by decide) (S.2.2.2.2 _ bg_4_19) (fun _ h9 => h9) hv hdg kk
theorem pf_X4_24 (S : CallFix p m c cc nL s args BIG RX4) (hw : Wd g s A H locs ws) (q0 : Nat) (he : ws[q0]? = some (a, .inr (3, fs))) (hl : 4 < fs.length) (hn : narrow .long v = v) (hfit : fits .long v = true) (hdg : decode cc pc = .ok (.putfield 24, 3)) (kk : ∀ (H1 : Heap) (locs1 : List Loc), Wd g s A H1 locs1 (ws.set q0 (a, .inr (3, fs.set 4 v))) → W p l e R s m args below meth c H1 locs1 cells slots Q (F0 m (pc + 3) ls rest)) : W p l e R s m args below meth c H locs cells slots Q (F0 m pc ls (v :: .ref a :: rest)) :=
  va_put (D := gD g) (C := RX4) (T := TX4) (N := 5) S.1 S.2.1 S.2.2.2.2 inlX4 tyX4 tyX4_ok nmX4 S.2.2.2.1 hw.1 hw.2.1 hw.2.2.1 hw.2.2.2.1 q0 he rfl 4 (by decide) (S.2.2.2.2 _ bg_4_19) (fun _ h9 => h9) rfl (by decide +kernel) hn hfit hl hdg (fun H1 l1 h1 h2 h3 => kk H1 l1 ⟨hw.1, h1, h2, h3, hw.2.2.2.2⟩)
theorem gf_X5_9 (S : CallFix p m c cc nL s args BIG RX5) (hw : Wd g s A H locs ws) (q0 : Nat) (he : ws[q0]? = some (a, .inr (4, fs))) (hv : fs[0]? = some v) (hdg : decode cc pc = .ok (.getfield 9, 3)) (kk : W p l e R s m args below meth c H locs cells slots Q (F0 m (pc + 3) ls (v :: rest))) : W p l e R s m args below meth c H locs cells slots Q (F0 m pc ls (.ref a :: rest)) :=
  va_get (D := gD g) (C := RX5) (T := TX5) (N := 2) S.1 S.2.1 S.2.2.2.2 inlX5 S.2.2.2.1 hw.1 hw.2.1 q0 he rfl 0 (by decide) (S.2.2.2.2 _ bg_4_4) (fun _ h9 => h9) hv hdg kk
theorem gf_X5_15 (S : CallFix p m c cc nL s args BIG RX5) (hw : Wd g s A H locs ws) (q0 : Nat) (he : ws[q0]? = some (a, .inr (4, fs))) (hv : fs[1]? = some v) (hdg : decode cc pc = .ok (.getfield 15, 3)) (kk : W p l e R s m args below meth c H locs cells slots Q (F0 m (pc + 3) ls (v :: rest))) : W p l e R s m args below meth c H locs cells slots Q (F0 m pc ls (.ref a :: rest)) :=
  va_get (D := gD g) (C := RX5) (T := TX5) (N := 2) S.1 S.2.1 S.2.2.2.2 inlX5 S.2.2.2.1 hw.1 hw.2.1 q0 he rfl 1 (by decide) (S.2.2.2.2 _ bg_4_5) (fun _ h9 => h9) hv hdg kk
theorem pf_X5_15 (S : CallFix p m c cc nL s args BIG RX5) (hw : Wd g s A H locs ws) (q0 : Nat) (he : ws[q0]? = some (a, .inr (4, fs))) (hl : 1 < fs.length) (hn : narrow .int v = v) (hfit : fits .int v = true) (hdg : decode cc pc = .ok (.putfield 15, 3)) (kk : ∀ (H1 : Heap) (locs1 : List Loc), Wd g s A H1 locs1 (ws.set q0 (a, .inr (4, fs.set 1 v))) → W p l e R s m args below meth c H1 locs1 cells slots Q (F0 m (pc + 3) ls rest)) : W p l e R s m args below meth c H locs cells slots Q (F0 m pc ls (v :: .ref a :: rest)) :=
  va_put (D := gD g) (C := RX5) (T := TX5) (N := 2) S.1 S.2.1 S.2.2.2.2 inlX5 tyX5 tyX5_ok nmX5 S.2.2.2.1 hw.1 hw.2.1 hw.2.2.1 hw.2.2.2.1 q0 he rfl 1 (by decide) (S.2.2.2.2 _ bg_4_5) (fun _ h9 => h9) rfl (by decide +kernel) hn hfit hl hdg (fun H1 l1 h1 h2 h3 => kk H1 l1 ⟨hw.1, h1, h2, h3, hw.2.2.2.2⟩)
theorem gf_X6_7 (S : CallFix p m c cc nL s args BIG RX6) (hw : Wd g s A H locs ws) (q0 : Nat) (he : ws[q0]? = some (a, .inr (5, fs))) (hv : fs[0]? = some v) (hdg : decode cc pc = .ok (.getfield 7, 3)) (kk : W p l e R s m args below meth c H locs cells slots Q (F0 m (pc + 3) ls (v :: rest))) : W p l e R s m args below meth c H locs cells slots Q (F0 m pc ls (.ref a :: rest)) :=
  va_get (D := gD g) (C := RX6) (T := TX6) (N := 3) S.1 S.2.1 S.2.2.2.2 inlX6 S.2.2.2.1 hw.1 hw.2.1 q0 he rfl 0 (by decide) (S.2.2.2.2 _ bg_4_9) (fun _ h9 => h9) hv hdg kk
theorem pf_X6_7 (S : CallFix p m c cc nL s args BIG RX6) (hw : Wd g s A H locs ws) (q0 : Nat) (he : ws[q0]? = some (a, .inr (5, fs))) (hl : 0 < fs.length) (hn : narrow .boolean v = v) (hfit : fits .boolean v = true) (hdg : decode cc pc = .ok (.putfield 7, 3)) (kk : ∀ (H1 : Heap) (locs1 : List Loc), Wd g s A H1 locs1 (ws.set q0 (a, .inr (5, fs.set 0 v))) → W p l e R s m args below meth c H1 locs1 cells slots Q (F0 m (pc + 3) ls rest)) : W p l e R s m args below meth c H locs cells slots Q (F0 m pc ls (v :: .ref a :: rest)) :=
  va_put (D := gD g) (C := RX6) (T := TX6) (N := 3) S.1 S.2.1 S.2.2.2.2 inlX6 tyX6 tyX6_ok nmX6 S.2.2.2.1 hw.1 hw.2.1 hw.2.2.1 hw.2.2.2.1 q0 he rfl 0 (by decide) (S.2.2.2.2 _ bg_4_9) (fun _ h9 => h9) rfl (by decide +kernel) hn hfit hl hdg (fun H1 l1 h1 h2 h3 => kk H1 l1 ⟨hw.1, h1, h2, h3, hw.2.2.2.2⟩)
theorem gf_X6_13 (S : CallFix p m c cc nL s args BIG RX6) (hw : Wd g s A H locs ws) (q0 : Nat) (he : ws[q0]? = some (a, .inr (5, fs))) (hv : fs[1]? = some v) (hdg : decode cc pc = .ok (.getfield 13, 3)) (kk : W p l e R s m args below meth c H locs cells slots Q (F0 m (pc + 3) ls (v :: rest))) : W p l e R s m args below meth c H locs cells slots Q (F0 m pc ls (.ref a :: rest)) :=
  va_get (D := gD g) (C := RX6) (T := TX6) (N := 3) S.1 S.2.1 S.2.2.2.2 inlX6 S.2.2.2.1 hw.1 hw.2.1 q0 he rfl 1 (by decide) (S.2.2.2.2 _ bg_4_10) (fun _ h9 => h9) hv hdg kk
theorem pf_X6_13 (S : CallFix p m c cc nL s args BIG RX6) (hw : Wd g s A H locs ws) (q0 : Nat) (he : ws[q0]? = some (a, .inr (5, fs))) (hl : 1 < fs.length) (hn : narrow .int v = v) (hfit : fits .int v = true) (hdg : decode cc pc = .ok (.putfield 13, 3)) (kk : ∀ (H1 : Heap) (locs1 : List Loc), Wd g s A H1 locs1 (ws.set q0 (a, .inr (5, fs.set 1 v))) → W p l e R s m args below meth c H1 locs1 cells slots Q (F0 m (pc + 3) ls rest)) : W p l e R s m args below meth c H locs cells slots Q (F0 m pc ls (v :: .ref a :: rest)) :=
  va_put (D := gD g) (C := RX6) (T := TX6) (N := 3) S.1 S.2.1 S.2.2.2.2 inlX6 tyX6 tyX6_ok nmX6 S.2.2.2.1 hw.1 hw.2.1 hw.2.2.1 hw.2.2.2.1 q0 he rfl 1 (by decide) (S.2.2.2.2 _ bg_4_10) (fun _ h9 => h9) rfl (by decide +kernel) hn hfit hl hdg (fun H1 l1 h1 h2 h3 => kk H1 l1 ⟨hw.1, h1, h2, h3, hw.2.2.2.2⟩)
theorem gf_X6_17 (S : CallFix p m c cc nL s args BIG RX6) (hw : Wd g s A H locs ws) (q0 : Nat) (he : ws[q0]? = some (a, .inr (5, fs))) (hv : fs[2]? = some v) (hdg : decode cc pc = .ok (.getfield 17, 3)) (kk : W p l e R s m args below meth c H locs cells slots Q (F0 m (pc + 3) ls (v :: rest))) : W p l e R s m args below meth c H locs cells slots Q (F0 m pc ls (.ref a :: rest)) :=
  va_get (D := gD g) (C := RX6) (T := TX6) (N := 3) S.1 S.2.1 S.2.2.2.2 inlX6 S.2.2.2.1 hw.1 hw.2.1 q0 he rfl 2 (by decide) (S.2.2.2.2 _ bg_4_11) (fun _ h9 => h9) hv hdg kk
theorem pf_X6_17 (S : CallFix p m c cc nL s args BIG RX6) (hw : Wd g s A H locs ws) (q0 : Nat) (he : ws[q0]? = some (a, .inr (5, fs))) (hl : 2 < fs.length) (hn : narrow .int v = v) (hfit : fits .int v = true) (hdg : decode cc pc = .ok (.putfield 17, 3)) (kk : ∀ (H1 : Heap) (locs1 : List Loc), Wd g s A H1 locs1 (ws.set q0 (a, .inr (5, fs.set 2 v))) → W p l e R s m args below meth c H1 locs1 cells slots Q (F0 m (pc + 3) ls rest)) : W p l e R s m args below meth c H locs cells slots Q (F0 m pc ls (v :: .ref a :: rest)) :=
  va_put (D := gD g) (C := RX6) (T := TX6) (N := 3) S.1 S.2.1 S.2.2.2.2 inlX6 tyX6 tyX6_ok nmX6 S.2.2.2.1 hw.1 hw.2.1 hw.2.2.1 hw.2.2.2.1 q0 he rfl 2 (by decide) (S.2.2.2.2 _ bg_4_11) (fun _ h9 => h9) rfl (by decide +kernel) hn hfit hl hdg (fun H1 l1 h1 h2 h3 => kk H1 l1 ⟨hw.1, h1, h2, h3, hw.2.2.2.2⟩)
theorem gf_X7_10 (S : CallFix p m c cc nL s args BIG RX7) (hw : Wd g s A H locs ws) (q0 : Nat) (he : ws[q0]? = some (a, .inr (6, fs))) (hv : fs[0]? = some v) (hdg : decode cc pc = .ok (.getfield 10, 3)) (kk : W p l e R s m args below meth c H locs cells slots Q (F0 m (pc + 3) ls (v :: rest))) : W p l e R s m args below meth c H locs cells slots Q (F0 m pc ls (.ref a :: rest)) :=
  va_get (D := gD g) (C := RX7) (T := TX7) (N := 19) S.1 S.2.1 S.2.2.2.2 inlX7 S.2.2.2.1 hw.1 hw.2.1 q0 he rfl 0 (by decide) (S.2.2.2.2 _ bg_1_17) (fun _ h9 => h9) hv hdg kk
theorem gf_X7_19 (S : CallFix p m c cc nL s args BIG RX7) (hw : Wd g s A H locs ws) (q0 : Nat) (he : ws[q0]? = some (a, .inr (6, fs))) (hv : fs[1]? = some v) (hdg : decode cc pc = .ok (.getfield 19, 3)) (kk : W p l e R s m args below meth c H locs cells slots Q (F0 m (pc + 3) ls (v :: rest))) : W p l e R s m args below meth c H locs cells slots Q (F0 m pc ls (.ref a :: rest)) :=
  va_get (D := gD g) (C := RX7) (T := TX7) (N := 19) S.1 S.2.1 S.2.2.2.2 inlX7 S.2.2.2.1 hw.1 hw.2.1 q0 he rfl 1 (by decide) (S.2.2.2.2 _ bg_1_21) (fun _ h9 => h9) hv hdg kk
theorem gf_X7_26 (S : CallFix p m c cc nL s args BIG RX7) (hw : Wd g s A H locs ws) (q0 : Nat) (he : ws[q0]? = some (a, .inr (6, fs))) (hv : fs[2]? = some v) (hdg : decode cc pc = .ok (.getfield 26, 3)) (kk : W p l e R s m args below meth c H locs cells slots Q (F0 m (pc + 3) ls (v :: rest))) : W p l e R s m args below meth c H locs cells slots Q (F0 m pc ls (.ref a :: rest)) :=
  va_get (D := gD g) (C := RX7) (T := TX7) (N := 19) S.1 S.2.1 S.2.2.2.2 inlX7 S.2.2.2.1 hw.1 hw.2.1 q0 he rfl 2 (by decide) (S.2.2.2.2 _ bg_2_1) (fun _ h9 => h9) hv hdg kk
theorem gf_X7_30 (S : CallFix p m c cc nL s args BIG RX7) (hw : Wd g s A H locs ws) (q0 : Nat) (he : ws[q0]? = some (a, .inr (6, fs))) (hv : fs[3]? = some v) (hdg : decode cc pc = .ok (.getfield 30, 3)) (kk : W p l e R s m args below meth c H locs cells slots Q (F0 m (pc + 3) ls (v :: rest))) : W p l e R s m args below meth c H locs cells slots Q (F0 m pc ls (.ref a :: rest)) :=
  va_get (D := gD g) (C := RX7) (T := TX7) (N := 19) S.1 S.2.1 S.2.2.2.2 inlX7 S.2.2.2.1 hw.1 hw.2.1 q0 he rfl 3 (by decide) (S.2.2.2.2 _ bg_2_2) (fun _ h9 => h9) hv hdg kk
theorem gf_X7_33 (S : CallFix p m c cc nL s args BIG RX7) (hw : Wd g s A H locs ws) (q0 : Nat) (he : ws[q0]? = some (a, .inr (6, fs))) (hv : fs[4]? = some v) (hdg : decode cc pc = .ok (.getfield 33, 3)) (kk : W p l e R s m args below meth c H locs cells slots Q (F0 m (pc + 3) ls (v :: rest))) : W p l e R s m args below meth c H locs cells slots Q (F0 m pc ls (.ref a :: rest)) :=
  va_get (D := gD g) (C := RX7) (T := TX7) (N := 19) S.1 S.2.1 S.2.2.2.2 inlX7 S.2.2.2.1 hw.1 hw.2.1 q0 he rfl 4 (by decide) (S.2.2.2.2 _ bg_2_3) (fun _ h9 => h9) hv hdg kk
theorem gf_X7_38 (S : CallFix p m c cc nL s args BIG RX7) (hw : Wd g s A H locs ws) (q0 : Nat) (he : ws[q0]? = some (a, .inr (6, fs))) (hv : fs[5]? = some v) (hdg : decode cc pc = .ok (.getfield 38, 3)) (kk : W p l e R s m args below meth c H locs cells slots Q (F0 m (pc + 3) ls (v :: rest))) : W p l e R s m args below meth c H locs cells slots Q (F0 m pc ls (.ref a :: rest)) :=
  va_get (D := gD g) (C := RX7) (T := TX7) (N := 19) S.1 S.2.1 S.2.2.2.2 inlX7 S.2.2.2.1 hw.1 hw.2.1 q0 he rfl 5 (by decide) (S.2.2.2.2 _ bg_2_5) (fun _ h9 => h9) hv hdg kk
theorem gf_X7_44 (S : CallFix p m c cc nL s args BIG RX7) (hw : Wd g s A H locs ws) (q0 : Nat) (he : ws[q0]? = some (a, .inr (6, fs))) (hv : fs[6]? = some v) (hdg : decode cc pc = .ok (.getfield 44, 3)) (kk : W p l e R s m args below meth c H locs cells slots Q (F0 m (pc + 3) ls (v :: rest))) : W p l e R s m args below meth c H locs cells slots Q (F0 m pc ls (.ref a :: rest)) :=
  va_get (D := gD g) (C := RX7) (T := TX7) (N := 19) S.1 S.2.1 S.2.2.2.2 inlX7 S.2.2.2.1 hw.1 hw.2.1 q0 he rfl 6 (by decide) (S.2.2.2.2 _ bg_2_7) (fun _ h9 => h9) hv hdg kk
theorem gf_X7_48 (S : CallFix p m c cc nL s args BIG RX7) (hw : Wd g s A H locs ws) (q0 : Nat) (he : ws[q0]? = some (a, .inr (6, fs))) (hv : fs[7]? = some v) (hdg : decode cc pc = .ok (.getfield 48, 3)) (kk : W p l e R s m args below meth c H locs cells slots Q (F0 m (pc + 3) ls (v :: rest))) : W p l e R s m args below meth c H locs cells slots Q (F0 m pc ls (.ref a :: rest)) :=
  va_get (D := gD g) (C := RX7) (T := TX7) (N := 19) S.1 S.2.1 S.2.2.2.2 inlX7 S.2.2.2.1 hw.1 hw.2.1 q0 he rfl 7 (by decide) (S.2.2.2.2 _ bg_2_9) (fun _ h9 => h9) hv hdg kk
theorem gf_X7_52 (S : CallFix p m c cc nL s args BIG RX7) (hw : Wd g s A H locs ws) (q0 : Nat) (he : ws[q0]? = some (a, .inr (6, fs))) (hv : fs[8]? = some v) (hdg : decode cc pc = .ok (.getfield 52, 3)) (kk : W p l e R s m args below meth c H locs cells slots Q (F0 m (pc + 3) ls (v :: rest))) : W p l e R s m args below meth c H locs cells slots Q (F0 m pc ls (.ref a :: rest)) :=
  va_get (D := gD g) (C := RX7) (T := TX7) (N := 19) S.1 S.2.1 S.2.2.2.2 inlX7 S.2.2.2.1 hw.1 hw.2.1 q0 he rfl 8 (by decide) (S.2.2.2.2 _ bg_2_10) (fun _ h9 => h9) hv hdg kk
theorem gf_X7_55 (S : CallFix p m c cc nL s args BIG RX7) (hw : Wd g s A H locs ws) (q0 : Nat) (he : ws[q0]? = some (a, .inr (6, fs))) (hv : fs[9]? = some v) (hdg : decode cc pc = .ok (.getfield 55, 3)) (kk : W p l e R s m args below meth c H locs cells slots Q (F0 m (pc + 3) ls (v :: rest))) : W p l e R s m args below meth c H locs cells slots Q (F0 m pc ls (.ref a :: rest)) :=
  va_get (D := gD g) (C := RX7) (T := TX7) (N := 19) S.1 S.2.1 S.2.2.2.2 inlX7 S.2.2.2.1 hw.1 hw.2.1 q0 he rfl 9 (by decide) (S.2.2.2.2 _ bg_2_11) (fun _ h9 => h9) hv hdg kk
theorem gf_X7_58 (S : CallFix p m c cc nL s args BIG RX7) (hw : Wd g s A H locs ws) (q0 : Nat) (he : ws[q0]? = some (a, .inr (6, fs))) (hv : fs[10]? = some v) (hdg : decode cc pc = .ok (.getfield 58, 3)) (kk : W p l e R s m args below meth c H locs cells slots Q (F0 m (pc + 3) ls (v :: rest))) : W p l e R s m args below meth c H locs cells slots Q (F0 m pc ls (.ref a :: rest)) :=
  va_get (D := gD g) (C := RX7) (T := TX7) (N := 19) S.1 S.2.1 S.2.2.2.2 inlX7 S.2.2.2.1 hw.1 hw.2.1 q0 he rfl 10 (by decide) (S.2.2.2.2 _ bg_2_12) (fun _ h9 => h9) hv hdg kk
theorem gf_X7_61 (S : CallFix p m c cc nL s args BIG RX7) (hw : Wd g s A H locs ws) (q0 : Nat) (he : ws[q0]? = some (a, .inr (6, fs))) (hv : fs[11]? = some v) (hdg : decode cc pc = .ok (.getfield 61, 3)) (kk : W p l e R s m args below meth c H locs cells slots Q (F0 m (pc + 3) ls (v :: rest))) : W p l e R s m args below meth c H locs cells slots Q (F0 m pc ls (.ref a :: rest)) :=
  va_get (D := gD g) (C := RX7) (T := TX7) (N := 19) S.1 S.2.1 S.2.2.2.2 inlX7 S.2.2.2.1 hw.1 hw.2.1 q0 he rfl 11 (by decide) (S.2.2.2.2 _ bg_2_13) (fun _ h9 => h9) hv hdg kk
theorem pf_X7_61 (S : CallFix p m c cc nL s args BIG RX7) (hw : Wd g s A H locs ws) (q0 : Nat) (he : ws[q0]? = some (a, .inr (6, fs))) (hl : 11 < fs.length) (hn : narrow .long v = v) (hfit : fits .long v = true) (hdg : decode cc pc = .ok (.putfield 61, 3)) (kk : ∀ (H1 : Heap) (locs1 : List Loc), Wd g s A H1 locs1 (ws.set q0 (a, .inr (6, fs.set 11 v))) → W p l e R s m args below meth c H1 locs1 cells slots Q (F0 m (pc + 3) ls rest)) : W p l e R s m args below meth c H locs cells slots Q (F0 m pc ls (v :: .ref a :: rest)) :=
  va_put (D := gD g) (C := RX7) (T := TX7) (N := 19) S.1 S.2.1 S.2.2.2.2 inlX7 tyX7 tyX7_ok nmX7 S.2.2.2.1 hw.1 hw.2.1 hw.2.2.1 hw.2.2.2.1 q0 he rfl 11 (by decide) (S.2.2.2.2 _ bg_2_13) (fun _ h9 => h9) rfl (by decide +kernel) hn hfit hl hdg (fun H1 l1 h1 h2 h3 => kk H1 l1 ⟨hw.1, h1, h2, h3, hw.2.2.2.2⟩)
theorem gf_X7_67 (S : CallFix p m c cc nL s args BIG RX7) (hw : Wd g s A H locs ws) (q0 : Nat) (he : ws[q0]? = some (a, .inr (6, fs))) (hv : fs[12]? = some v) (hdg : decode cc pc = .ok (.getfield 67, 3)) (kk : W p l e R s m args below meth c H locs cells slots Q (F0 m (pc + 3) ls (v :: rest))) : W p l e R s m args below meth c H locs cells slots Q (F0 m pc ls (.ref a :: rest)) :=
  va_get (D := gD g) (C := RX7) (T := TX7) (N := 19) S.1 S.2.1 S.2.2.2.2 inlX7 S.2.2.2.1 hw.1 hw.2.1 q0 he rfl 12 (by decide) (S.2.2.2.2 _ bg_2_15) (fun _ h9 => h9) hv hdg kk
theorem pf_X7_67 (S : CallFix p m c cc nL s args BIG RX7) (hw : Wd g s A H locs ws) (q0 : Nat) (he : ws[q0]? = some (a, .inr (6, fs))) (hl : 12 < fs.length) (hn : narrow .long v = v) (hfit : fits .long v = true) (hdg : decode cc pc = .ok (.putfield 67, 3)) (kk : ∀ (H1 : Heap) (locs1 : List Loc), Wd g s A H1 locs1 (ws.set q0 (a, .inr (6, fs.set 12 v))) → W p l e R s m args below meth c H1 locs1 cells slots Q (F0 m (pc + 3) ls rest)) : W p l e R s m args below meth c H locs cells slots Q (F0 m pc ls (v :: .ref a :: rest)) :=
  va_put (D := gD g) (C := RX7) (T := TX7) (N := 19) S.1 S.2.1 S.2.2.2.2 inlX7 tyX7 tyX7_ok nmX7 S.2.2.2.1 hw.1 hw.2.1 hw.2.2.1 hw.2.2.2.1 q0 he rfl 12 (by decide) (S.2.2.2.2 _ bg_2_15) (fun _ h9 => h9) rfl (by decide +kernel) hn hfit hl hdg (fun H1 l1 h1 h2 h3 => kk H1 l1 ⟨hw.1, h1, h2, h3, hw.2.2.2.2⟩)
theorem gf_X7_70 (S : CallFix p m c cc nL s args BIG RX7) (hw : Wd g s A H locs ws) (q0 : Nat) (he : ws[q0]? = some (a, .inr (6, fs))) (hv : fs[13]? = some v) (hdg : decode cc pc = .ok (.getfield 70, 3)) (kk : W p l e R s m args below meth c H locs cells slots Q (F0 m (pc + 3) ls (v :: rest))) : W p l e R s m args below meth c H locs cells slots Q (F0 m pc ls (.ref a :: rest)) :=
  va_get (D := gD g) (C := RX7) (T := TX7) (N := 19) S.1 S.2.1 S.2.2.2.2 inlX7 S.2.2.2.1 hw.1 hw.2.1 q0 he rfl 13 (by decide) (S.2.2.2.2 _ bg_2_16) (fun _ h9 => h9) hv hdg kk
theorem pf_X7_70 (S : CallFix p m c cc nL s args BIG RX7) (hw : Wd g s A H locs ws) (q0 : Nat) (he : ws[q0]? = some (a, .inr (6, fs))) (hl : 13 < fs.length) (hn : narrow .long v = v) (hfit : fits .long v = true) (hdg : decode cc pc = .ok (.putfield 70, 3)) (kk : ∀ (H1 : Heap) (locs1 : List Loc), Wd g s A H1 locs1 (ws.set q0 (a, .inr (6, fs.set 13 v))) → W p l e R s m args below meth c H1 locs1 cells slots Q (F0 m (pc + 3) ls rest)) : W p l e R s m args below meth c H locs cells slots Q (F0 m pc ls (v :: .ref a :: rest)) :=
  va_put (D := gD g) (C := RX7) (T := TX7) (N := 19) S.1 S.2.1 S.2.2.2.2 inlX7 tyX7 tyX7_ok nmX7 S.2.2.2.1 hw.1 hw.2.1 hw.2.2.1 hw.2.2.2.1 q0 he rfl 13 (by decide) (S.2.2.2.2 _ bg_2_16) (fun _ h9 => h9) rfl (by decide +kernel) hn hfit hl hdg (fun H1 l1 h1 h2 h3 => kk H1 l1 ⟨hw.1, h1, h2, h3, hw.2.2.2.2⟩)
theorem gf_X7_73 (S : CallFix p m c cc nL s args BIG RX7) (hw : Wd g s A H locs ws) (q0 : Nat) (he : ws[q0]? = some (a, .inr (6, fs))) (hv : fs[14]? = some v) (hdg : decode cc pc = .ok (.getfield 73, 3)) (kk : W p l e R s m args below meth c H locs cells slots Q (F0 m (pc + 3) ls (v :: rest))) : W p l e R s m args below meth c H locs cells slots Q (F0 m pc ls (.ref a :: rest)) :=
  va_get (D := gD g) (C := RX7) (T := TX7) (N := 19) S.1 S.2.1 S.2.2.2.2 inlX7 S.2.2.2.1 hw.1 hw.2.1 q0 he rfl 14 (by decide) (S.2.2.2.2 _ bg_2_17) (fun _ h9 => h9) hv hdg kk
theorem pf_X7_73 (S : CallFix p m c cc nL s args BIG RX7) (hw : Wd g s A H locs ws) (q0 : Nat) (he : ws[q0]? = some (a, .inr (6, fs))) (hl : 14 < fs.length) (hn : narrow .long v = v) (hfit : fits .long v = true) (hdg : decode cc pc = .ok (.putfield 73, 3)) (kk : ∀ (H1 : Heap) (locs1 : List Loc), Wd g s A H1 locs1 (ws.set q0 (a, .inr (6, fs.set 14 v))) → W p l e R s m args below meth c H1 locs1 cells slots Q (F0 m (pc + 3) ls rest)) : W p l e R s m args below meth c H locs cells slots Q (F0 m pc ls (v :: .ref a :: rest)) :=
  va_put (D := gD g) (C := RX7) (T := TX7) (N := 19) S.1 S.2.1 S.2.2.2.2 inlX7 tyX7 tyX7_ok nmX7 S.2.2.2.1 hw.1 hw.2.1 hw.2.2.1 hw.2.2.2.1 q0 he rfl 14 (by decide) (S.2.2.2.2 _ bg_2_17) (fun _ h9 => h9) rfl (by decide +kernel) hn hfit hl hdg (fun H1 l1 h1 h2 h3 => kk H1 l1 ⟨hw.1, h1, h2, h3, hw.2.2.2.2⟩)
theorem gf_X7_76 (S : CallFix p m c cc nL s args BIG RX7) (hw : Wd g s A H locs ws) (q0 : Nat) (he : ws[q0]? = some (a, .inr (6, fs))) (hv : fs[15]? = some v) (hdg : decode cc pc = .ok (.getfield 76, 3)) (kk : W p l e R s m args below meth c H locs cells slots Q (F0 m (pc + 3) ls (v :: rest))) : W p l e R s m args below meth c H locs cells slots Q (F0 m pc ls (.ref a :: rest)) :=
  va_get (D := gD g) (C := RX7) (T := TX7) (N := 19) S.1 S.2.1 S.2.2.2.2 inlX7 S.2.2.2.1 hw.1 hw.2.1 q0 he rfl 15 (by decide) (S.2.2.2.2 _ bg_2_18) (fun _ h9 => h9) hv hdg kk
theorem pf_X7_76 (S : CallFix p m c cc nL s args BIG RX7) (hw : Wd g s A H locs ws) (q0 : Nat) (he : ws[q0]? = some (a, .inr (6, fs))) (hl : 15 < fs.length) (hn : narrow .int v = v) (hfit : fits .int v = true) (hdg : decode cc pc = .ok (.putfield 76, 3)) (kk : ∀ (H1 : Heap) (locs1 : List Loc), Wd g s A H1 locs1 (ws.set q0 (a, .inr (6, fs.set 15 v))) → W p l e R s m args below meth c H1 locs1 cells slots Q (F0 m (pc + 3) ls rest)) : W p l e R s m args below meth c H locs cells slots Q (F0 m pc ls (v :: .ref a :: rest)) :=
  va_put (D := gD g) (C := RX7) (T := TX7) (N := 19) S.1 S.2.1 S.2.2.2.2 inlX7 tyX7 tyX7_ok nmX7 S.2.2.2.1 hw.1 hw.2.1 hw.2.2.1 hw.2.2.2.1 q0 he rfl 15 (by decide) (S.2.2.2.2 _ bg_2_18) (fun _ h9 => h9) rfl (by decide +kernel) hn hfit hl hdg (fun H1 l1 h1 h2 h3 => kk H1 l1 ⟨hw.1, h1, h2, h3, hw.2.2.2.2⟩)
theorem gf_X7_80 (S : CallFix p m c cc nL s args BIG RX7) (hw : Wd g s A H locs ws) (q0 : Nat) (he : ws[q0]? = some (a, .inr (6, fs))) (hv : fs[16]? = some v) (hdg : decode cc pc = .ok (.getfield 80, 3)) (kk : W p l e R s m args below meth c H locs cells slots Q (F0 m (pc + 3) ls (v :: rest))) : W p l e R s m args below meth c H locs cells slots Q (F0 m pc ls (.ref a :: rest)) :=
  va_get (D := gD g) (C := RX7) (T := TX7) (N := 19) S.1 S.2.1 S.2.2.2.2 inlX7 S.2.2.2.1 hw.1 hw.2.1 q0 he rfl 16 (by decide) (S.2.2.2.2 _ bg_2_19) (fun _ h9 => h9) hv hdg kk
theorem pf_X7_80 (S : CallFix p m c cc nL s args BIG RX7) (hw : Wd g s A H locs ws) (q0 : Nat) (he : ws[q0]? = some (a, .inr (6, fs))) (hl : 16 < fs.length) (hn : narrow .int v = v) (hfit : fits .int v = true) (hdg : decode cc pc = .ok (.putfield 80, 3)) (kk : ∀ (H1 : Heap) (locs1 : List Loc), Wd g s A H1 locs1 (ws.set q0 (a, .inr (6, fs.set 16 v))) → W p l e R s m args below meth c H1 locs1 cells slots Q (F0 m (pc + 3) ls rest)) : W p l e R s m args below meth c H locs cells slots Q (F0 m pc ls (v :: .ref a :: rest)) :=
  va_put (D := gD g) (C := RX7) (T := TX7) (N := 19) S.1 S.2.1 S.2.2.2.2 inlX7 tyX7 tyX7_ok nmX7 S.2.2.2.1 hw.1 hw.2.1 hw.2.2.1 hw.2.2.2.1 q0 he rfl 16 (by decide) (S.2.2.2.2 _ bg_2_19) (fun _ h9 => h9) rfl (by decide +kernel) hn hfit hl hdg (fun H1 l1 h1 h2 h3 => kk H1 l1 ⟨hw.1, h1, h2, h3, hw.2.2.2.2⟩)
theorem gf_X7_83 (S : CallFix p m c cc nL s args BIG RX7) (hw : Wd g s A H locs ws) (q0 : Nat) (he : ws[q0]? = some (a, .inr (6, fs))) (hv : fs[17]? = some v) (hdg : decode cc pc = .ok (.getfield 83, 3)) (kk : W p l e R s m args below meth c H locs cells slots Q (F0 m (pc + 3) ls (v :: rest))) : W p l e R s m args below meth c H locs cells slots Q (F0 m pc ls (.ref a :: rest)) :=
  va_get (D := gD g) (C := RX7) (T := TX7) (N := 19) S.1 S.2.1 S.2.2.2.2 inlX7 S.2.2.2.1 hw.1 hw.2.1 q0 he rfl 17 (by decide) (S.2.2.2.2 _ bg_2_20) (fun _ h9 => h9) hv hdg kk
theorem pf_X7_83 (S : CallFix p m c cc nL s args BIG RX7) (hw : Wd g s A H locs ws) (q0 : Nat) (he : ws[q0]? = some (a, .inr (6, fs))) (hl : 17 < fs.length) (hn : narrow .int v = v) (hfit : fits .int v = true) (hdg : decode cc pc = .ok (.putfield 83, 3)) (kk : ∀ (H1 : Heap) (locs1 : List Loc), Wd g s A H1 locs1 (ws.set q0 (a, .inr (6, fs.set 17 v))) → W p l e R s m args below meth c H1 locs1 cells slots Q (F0 m (pc + 3) ls rest)) : W p l e R s m args below meth c H locs cells slots Q (F0 m pc ls (v :: .ref a :: rest)) :=
  va_put (D := gD g) (C := RX7) (T := TX7) (N := 19) S.1 S.2.1 S.2.2.2.2 inlX7 tyX7 tyX7_ok nmX7 S.2.2.2.1 hw.1 hw.2.1 hw.2.2.1 hw.2.2.2.1 q0 he rfl 17 (by decide) (S.2.2.2.2 _ bg_2_20) (fun _ h9 => h9) rfl (by decide +kernel) hn hfit hl hdg (fun H1 l1 h1 h2 h3 => kk H1 l1 ⟨hw.1, h1, h2, h3, hw.2.2.2.2⟩)
theorem gf_X7_86 (S : CallFix p m c cc nL s args BIG RX7) (hw : Wd g s A H locs ws) (q0 : Nat) (he : ws[q0]? = some (a, .inr (6, fs))) (hv : fs[18]? = some v) (hdg : decode cc pc = .ok (.getfield 86, 3)) (kk : W p l e R s m args below meth c H locs cells slots Q (F0 m (pc + 3) ls (v :: rest))) : W p l e R s m args below meth c H locs cells slots Q (F0 m pc ls (.ref a :: rest)) :=
  va_get (D := gD g) (C := RX7) (T := TX7) (N := 19) S.1 S.2.1 S.2.2.2.2 inlX7 S.2.2.2.1 hw.1 hw.2.1 q0 he rfl 18 (by decide) (S.2.2.2.2 _ bg_2_21) (fun _ h9 => h9) hv hdg kk
theorem pf_X7_86 (S : CallFix p m c cc nL s args BIG RX7) (hw : Wd g s A H locs ws) (q0 : Nat) (he : ws[q0]? = some (a, .inr (6, fs))) (hl : 18 < fs.length) (hn : narrow .int v = v) (hfit : fits .int v = true) (hdg : decode cc pc = .ok (.putfield 86, 3)) (kk : ∀ (H1 : Heap) (locs1 : List Loc), Wd g s A H1 locs1 (ws.set q0 (a, .inr (6, fs.set 18 v))) → W p l e R s m args below meth c H1 locs1 cells slots Q (F0 m (pc + 3) ls rest)) : W p l e R s m args below meth c H locs cells slots Q (F0 m pc ls (v :: .ref a :: rest)) :=
  va_put (D := gD g) (C := RX7) (T := TX7) (N := 19) S.1 S.2.1 S.2.2.2.2 inlX7 tyX7 tyX7_ok nmX7 S.2.2.2.1 hw.1 hw.2.1 hw.2.2.1 hw.2.2.2.1 q0 he rfl 18 (by decide) (S.2.2.2.2 _ bg_2_21) (fun _ h9 => h9) rfl (by decide +kernel) hn hfit hl hdg (fun H1 l1 h1 h2 h3 => kk H1 l1 ⟨hw.1, h1, h2, h3, hw.2.2.2.2⟩)
theorem gf_X7_118 (S : CallFix p m c cc nL s args BIG RX7) (hw : Wd g s A H locs ws) (q0 : Nat) (he : ws[q0]? = some (a, .inr (0, fs))) (hv : fs[1]? = some v) (hdg : decode cc pc = .ok (.getfield 118, 3)) (kk : W p l e R s m args below meth c H locs cells slots Q (F0 m (pc + 3) ls (v :: rest))) : W p l e R s m args below meth c H locs cells slots Q (F0 m pc ls (.ref a :: rest)) :=
  va_getN (D := gD g) (C := RX1) (T := TX1) (N := 3) S.1 S.2.1 S.2.2.2.2 inlX1 S.2.2.2.1 hw.1 hw.2.1 q0 he rfl 1 (by decide) (va_Nw.use rfl (hw.2.2.2.2.1.1 _ (List.mem_of_getElem? (i := 13) rfl))) (fun _ h9 => h9) hv hdg kk
theorem pf_X7_118 (S : CallFix p m c cc nL s args BIG RX7) (hw : Wd g s A H locs ws) (q0 : Nat) (he : ws[q0]? = some (a, .inr (0, fs))) (hl : 1 < fs.length) (hn : narrow .int v = v) (hfit : fits .int v = true) (hdg : decode cc pc = .ok (.putfield 118, 3)) (kk : ∀ (H1 : Heap) (locs1 : List Loc), Wd g s A H1 locs1 (ws.set q0 (a, .inr (0, fs.set 1 v))) → W p l e R s m args below meth c H1 locs1 cells slots Q (F0 m (pc + 3) ls rest)) : W p l e R s m args below meth c H locs cells slots Q (F0 m pc ls (v :: .ref a :: rest)) :=
  va_putN (D := gD g) (C := RX1) (T := TX1) (N := 3) S.1 S.2.1 S.2.2.2.2 inlX1 tyX1 tyX1_ok nmX1 S.2.2.2.1 hw.1 hw.2.1 hw.2.2.1 hw.2.2.2.1 q0 he rfl 1 (by decide) (va_Nw.use rfl (hw.2.2.2.2.1.1 _ (List.mem_of_getElem? (i := 13) rfl))) (fun _ h9 => h9) rfl (by decide +kernel) hn hfit hl hdg (fun H1 l1 h1 h2 h3 => kk H1 l1 ⟨hw.1, h1, h2, h3, hw.2.2.2.2⟩)
theorem gf_X7_160 (S : CallFix p m c cc nL s args BIG RX7) (hw : Wd g s A H locs ws) (q0 : Nat) (he : ws[q0]? = some (a, .inr (3, fs))) (hv : fs[4]? = some v) (hdg : decode cc pc = .ok (.getfield 160, 3)) (kk : W p l e R s m args below meth c H locs cells slots Q (F0 m (pc + 3) ls (v :: rest))) : W p l e R s m args below meth c H locs cells slots Q (F0 m pc ls (.ref a :: rest)) :=
  va_getN (D := gD g) (C := RX4) (T := TX4) (N := 5) S.1 S.2.1 S.2.2.2.2 inlX4 S.2.2.2.1 hw.1 hw.2.1 q0 he rfl 4 (by decide) (va_Nw.use rfl (hw.2.2.2.2.1.1 _ (List.mem_of_getElem? (i := 0) rfl))) (fun _ h9 => h9) hv hdg kk
theorem pf_X7_160 (S : CallFix p m c cc nL s args BIG RX7) (hw : Wd g s A H locs ws) (q0 : Nat) (he : ws[q0]? = some (a, .inr (3, fs))) (hl : 4 < fs.length) (hn : narrow .long v = v) (hfit : fits .long v = true) (hdg : decode cc pc = .ok (.putfield 160, 3)) (kk : ∀ (H1 : Heap) (locs1 : List Loc), Wd g s A H1 locs1 (ws.set q0 (a, .inr (3, fs.set 4 v))) → W p l e R s m args below meth c H1 locs1 cells slots Q (F0 m (pc + 3) ls rest)) : W p l e R s m args below meth c H locs cells slots Q (F0 m pc ls (v :: .ref a :: rest)) :=
  va_putN (D := gD g) (C := RX4) (T := TX4) (N := 5) S.1 S.2.1 S.2.2.2.2 inlX4 tyX4 tyX4_ok nmX4 S.2.2.2.1 hw.1 hw.2.1 hw.2.2.1 hw.2.2.2.1 q0 he rfl 4 (by decide) (va_Nw.use rfl (hw.2.2.2.2.1.1 _ (List.mem_of_getElem? (i := 0) rfl))) (fun _ h9 => h9) rfl (by decide +kernel) hn hfit hl hdg (fun H1 l1 h1 h2 h3 => kk H1 l1 ⟨hw.1, h1, h2, h3, hw.2.2.2.2⟩)
theorem gf_X7_163 (S : CallFix p m c cc nL s args BIG RX7) (hw : Wd g s A H locs ws) (q0 : Nat) (he : ws[q0]? = some (a, .inr (3, fs))) (hv : fs[0]? = some v) (hdg : decode cc pc = .ok (.getfield 163, 3)) (kk : W p l e R s m args below meth c H locs cells slots Q (F0 m (pc + 3) ls (v :: rest))) : W p l e R s m args below meth c H locs cells slots Q (F0 m pc ls (.ref a :: rest)) :=
  va_getN (D := gD g) (C := RX4) (T := TX4) (N := 5) S.1 S.2.1 S.2.2.2.2 inlX4 S.2.2.2.1 hw.1 hw.2.1 q0 he rfl 0 (by decide) (va_Nw.use rfl (hw.2.2.2.2.1.1 _ (List.mem_of_getElem? (i := 1) rfl))) (fun _ h9 => h9) hv hdg kk
theorem pf_X7_163 (S : CallFix p m c cc nL s args BIG RX7) (hw : Wd g s A H locs ws) (q0 : Nat) (he : ws[q0]? = some (a, .inr (3, fs))) (hl : 0 < fs.length) (hn : narrow .boolean v = v) (hfit : fits .boolean v = true) (hdg : decode cc pc = .ok (.putfield 163, 3)) (kk : ∀ (H1 : Heap) (locs1 : List Loc), Wd g s A H1 locs1 (ws.set q0 (a, .inr (3, fs.set 0 v))) → W p l e R s m args below meth c H1 locs1 cells slots Q (F0 m (pc + 3) ls rest)) : W p l e R s m args below meth c H locs cells slots Q (F0 m pc ls (v :: .ref a :: rest)) :=
  va_putN (D := gD g) (C := RX4) (T := TX4) (N := 5) S.1 S.2.1 S.2.2.2.2 inlX4 tyX4 tyX4_ok nmX4 S.2.2.2.1 hw.1 hw.2.1 hw.2.2.1 hw.2.2.2.1 q0 he rfl 0 (by decide) (va_Nw.use rfl (hw.2.2.2.2.1.1 _ (List.mem_of_getElem? (i := 1) rfl))) (fun _ h9 => h9) rfl (by decide +kernel) hn hfit hl hdg (fun H1 l1 h1 h2 h3 => kk H1 l1 ⟨hw.1, h1, h2, h3, hw.2.2.2.2⟩)
theorem gf_X7_167 (S : CallFix p m c cc nL s args BIG RX7) (hw : Wd g s A H locs ws) (q0 : Nat) (he : ws[q0]? = some (a, .inr (3, fs))) (hv : fs[1]? = some v) (hdg : decode cc pc = .ok (.getfield 167, 3)) (kk : W p l e R s m args below meth c H locs cells slots Q (F0 m (pc + 3) ls (v :: rest))) : W p l e R s m args below meth c H locs cells slots Q (F0 m pc ls (.ref a :: rest)) :=
  va_getN (D := gD g) (C := RX4) (T := TX4) (N := 5) S.1 S.2.1 S.2.2.2.2 inlX4 S.2.2.2.1 hw.1 hw.2.1 q0 he rfl 1 (by decide) (va_Nw.use rfl (hw.2.2.2.2.1.1 _ (List.mem_of_getElem? (i := 2) rfl))) (fun _ h9 => h9) hv hdg kk
theorem pf_X7_167 (S : CallFix p m c cc nL s args BIG RX7) (hw : Wd g s A H locs ws) (q0 : Nat) (he : ws[q0]? = some (a, .inr (3, fs))) (hl : 1 < fs.length) (hn : narrow .int v = v) (hfit : fits .int v = true) (hdg : decode cc pc = .ok (.putfield 167, 3)) (kk : ∀ (H1 : Heap) (locs1 : List Loc), Wd g s A H1 locs1 (ws.set q0 (a, .inr (3, fs.set 1 v))) → W p l e R s m args below meth c H1 locs1 cells slots Q (F0 m (pc + 3) ls rest)) : W p l e R s m args below meth c H locs cells slots Q (F0 m pc ls (v :: .ref a :: rest)) :=
  va_putN (D := gD g) (C := RX4) (T := TX4) (N := 5) S.1 S.2.1 S.2.2.2.2 inlX4 tyX4 tyX4_ok nmX4 S.2.2.2.1 hw.1 hw.2.1 hw.2.2.1 hw.2.2.2.1 q0 he rfl 1 (by decide) (va_Nw.use rfl (hw.2.2.2.2.1.1 _ (List.mem_of_getElem? (i := 2) rfl))) (fun _ h9 => h9) rfl (by decide +kernel) hn hfit hl hdg (fun H1 l1 h1 h2 h3 => kk H1 l1 ⟨hw.1, h1, h2, h3, hw.2.2.2.2⟩)
theorem gf_X7_181 (S : CallFix p m c cc nL s args BIG RX7) (hw : Wd g s A H locs ws) (q0 : Nat) (he : ws[q0]? = some (a, .inr (4, fs))) (hv : fs[1]? = some v) (hdg : decode cc pc = .ok (.getfield 181, 3)) (kk : W p l e R s m args below meth c H locs cells slots Q (F0 m (pc + 3) ls (v :: rest))) : W p l e R s m args below meth c H locs cells slots Q (F0 m pc ls (.ref a :: rest)) :=
  va_getN (D := gD g) (C := RX5) (T := TX5) (N := 2) S.1 S.2.1 S.2.2.2.2 inlX5 S.2.2.2.1 hw.1 hw.2.1 q0 he rfl 1 (by decide) (va_Nw.use rfl (hw.2.2.2.2.1.1 _ (List.mem_of_getElem? (i := 12) rfl))) (fun _ h9 => h9) hv hdg kk
theorem pf_X7_181 (S : CallFix p m c cc nL s args BIG RX7) (hw : Wd g s A H locs ws) (q0 : Nat) (he : ws[q0]? = some (a, .inr (4, fs))) (hl : 1 < fs.length) (hn : narrow .int v = v) (hfit : fits .int v = true) (hdg : decode cc pc = .ok (.putfield 181, 3)) (kk : ∀ (H1 : Heap) (locs1 : List Loc), Wd g s A H1 locs1 (ws.set q0 (a, .inr (4, fs.set 1 v))) → W p l e R s m args below meth c H1 locs1 cells slots Q (F0 m (pc + 3) ls rest)) : W p l e R s m args below meth c H locs cells slots Q (F0 m pc ls (v :: .ref a :: rest)) :=
  va_putN (D := gD g) (C := RX5) (T := TX5) (N := 2) S.1 S.2.1 S.2.2.2.2 inlX5 tyX5 tyX5_ok nmX5 S.2.2.2.1 hw.1 hw.2.1 hw.2.2.1 hw.2.2.2.1 q0 he rfl 1 (by decide) (va_Nw.use rfl (hw.2.2.2.2.1.1 _ (List.mem_of_getElem? (i := 12) rfl))) (fun _ h9 => h9) rfl (by decide +kernel) hn hfit hl hdg (fun H1 l1 h1 h2 h3 => kk H1 l1 ⟨hw.1, h1, h2, h3, hw.2.2.2.2⟩)
theorem gf_X7_196 (S : CallFix p m c cc nL s args BIG RX7) (hw : Wd g s A H locs ws) (q0 : Nat) (he : ws[q0]? = some (a, .inr (4, fs))) (hv : fs[0]? = some v) (hdg : decode cc pc = .ok (.getfield 196, 3)) (kk : W p l e R s m args below meth c H locs cells slots Q (F0 m (pc + 3) ls (v :: rest))) : W p l e R s m args below meth c H locs cells slots Q (F0 m pc ls (.ref a :: rest)) :=
  va_getN (D := gD g) (C := RX5) (T := TX5) (N := 2) S.1 S.2.1 S.2.2.2.2 inlX5 S.2.2.2.1 hw.1 hw.2.1 q0 he rfl 0 (by decide) (va_Nw.use rfl (hw.2.2.2.2.1.1 _ (List.mem_of_getElem? (i := 11) rfl))) (fun _ h9 => h9) hv hdg kk
theorem gf_X7_201 (S : CallFix p m c cc nL s args BIG RX7) (hw : Wd g s A H locs ws) (q0 : Nat) (he : ws[q0]? = some (a, .inr (3, fs))) (hv : fs[2]? = some v) (hdg : decode cc pc = .ok (.getfield 201, 3)) (kk : W p l e R s m args below meth c H locs cells slots Q (F0 m (pc + 3) ls (v :: rest))) : W p l e R s m args below meth c H locs cells slots Q (F0 m pc ls (.ref a :: rest)) :=
  va_getN (D := gD g) (C := RX4) (T := TX4) (N := 5) S.1 S.2.1 S.2.2.2.2 inlX4 S.2.2.2.1 hw.1 hw.2.1 q0 he rfl 2 (by decide) (va_Nw.use rfl (hw.2.2.2.2.1.1 _ (List.mem_of_getElem? (i := 3) rfl))) (fun _ h9 => h9) hv hdg kk
theorem pf_X7_201 (S : CallFix p m c cc nL s args BIG RX7) (hw : Wd g s A H locs ws) (q0 : Nat) (he : ws[q0]? = some (a, .inr (3, fs))) (hl : 2 < fs.length) (hn : narrow .long v = v) (hfit : fits .long v = true) (hdg : decode cc pc = .ok (.putfield 201, 3)) (kk : ∀ (H1 : Heap) (locs1 : List Loc), Wd g s A H1 locs1 (ws.set q0 (a, .inr (3, fs.set 2 v))) → W p l e R s m args below meth c H1 locs1 cells slots Q (F0 m (pc + 3) ls rest)) : W p l e R s m args below meth c H locs cells slots Q (F0 m pc ls (v :: .ref a :: rest)) :=
  va_putN (D := gD g) (C := RX4) (T := TX4) (N := 5) S.1 S.2.1 S.2.2.2.2 inlX4 tyX4 tyX4_ok nmX4 S.2.2.2.1 hw.1 hw.2.1 hw.2.2.1 hw.2.2.2.1 q0 he rfl 2 (by decide) (va_Nw.use rfl (hw.2.2.2.2.1.1 _ (List.mem_of_getElem? (i := 3) rfl))) (fun _ h9 => h9) rfl (by decide +kernel) hn hfit hl hdg (fun H1 l1 h1 h2 h3 => kk H1 l1 ⟨hw.1, h1, h2, h3, hw.2.2.2.2⟩)
theorem gf_X7_204 (S : CallFix p m c cc nL s args BIG RX7) (hw : Wd g s A H locs ws) (q0 : Nat) (he : ws[q0]? = some (a, .inr (3, fs))) (hv : fs[3]? = some v) (hdg : decode cc pc = .ok (.getfield 204, 3)) (kk : W p l e R s m args below meth c H locs cells slots Q (F0 m (pc + 3) ls (v :: rest))) : W p l e R s m args below meth c H locs cells slots Q (F0 m pc ls (.ref a :: rest)) :=
  va_getN (D := gD g) (C := RX4) (T := TX4) (N := 5) S.1 S.2.1 S.2.2.2.2 inlX4 S.2.2.2.1 hw.1 hw.2.1 q0 he rfl 3 (by decide) (va_Nw.use rfl (hw.2.2.2.2.1.1 _ (List.mem_of_getElem? (i := 4) rfl))) (fun _ h9 => h9) hv hdg kk
theorem pf_X7_204 (S : CallFix p m c cc nL s args BIG RX7) (hw : Wd g s A H locs ws) (q0 : Nat) (he : ws[q0]? = some (a, .inr (3, fs))) (hl : 3 < fs.length) (hn : narrow .long v = v) (hfit : fits .long v = true) (hdg : decode cc pc = .ok (.putfield 204, 3)) (kk : ∀ (H1 : Heap) (locs1 : List Loc), Wd g s A H1 locs1 (ws.set q0 (a, .inr (3, fs.set 3 v))) → W p l e R s m args below meth c H1 locs1 cells slots Q (F0 m (pc + 3) ls rest)) : W p l e R s m args below meth c H locs cells slots Q (F0 m pc ls (v :: .ref a :: rest)) :=
  va_putN (D := gD g) (C := RX4) (T := TX4) (N := 5) S.1 S.2.1 S.2.2.2.2 inlX4 tyX4 tyX4_ok nmX4 S.2.2.2.1 hw.1 hw.2.1 hw.2.2.1 hw.2.2.2.1 q0 he rfl 3 (by decide) (va_Nw.use rfl (hw.2.2.2.2.1.1 _ (List.mem_of_getElem? (i := 4) rfl))) (fun _ h9 => h9) rfl (by decide +kernel) hn hfit hl hdg (fun H1 l1 h1 h2 h3 => kk H1 l1 ⟨hw.1, h1, h2, h3, hw.2.2.2.2⟩)
theorem gf_X7_214 (S : CallFix p m c cc nL s args BIG RX7) (hw : Wd g s A H locs ws) (q0 : Nat) (he : ws[q0]? = some (a, .inr (0, fs))) (hv : fs[0]? = some v) (hdg : decode cc pc = .ok (.getfield 214, 3)) (kk : W p l e R s m args below meth c H locs cells slots Q (F0 m (pc + 3) ls (v :: rest))) : W p l e R s m args below meth c H locs cells slots Q (F0 m pc ls (.ref a :: rest)) :=
  va_getN (D := gD g) (C := RX1) (T := TX1) (N := 3) S.1 S.2.1 S.2.2.2.2 inlX1 S.2.2.2.1 hw.1 hw.2.1 q0 he rfl 0 (by decide) (va_Nw.use rfl (hw.2.2.2.2.1.1 _ (List.mem_of_getElem? (i := 5) rfl))) (fun _ h9 => h9) hv hdg kk
theorem gf_X7_221 (S : CallFix p m c cc nL s args BIG RX7) (hw : Wd g s A H locs ws) (q0 : Nat) (he : ws[q0]? = some (a, .inr (2, fs))) (hv : fs[0]? = some v) (hdg : decode cc pc = .ok (.getfield 221, 3)) (kk : W p l e R s m args below meth c H locs cells slots Q (F0 m (pc + 3) ls (v :: rest))) : W p l e R s m args below meth c H locs cells slots Q (F0 m pc ls (.ref a :: rest)) :=
  va_getN (D := gD g) (C := RX3) (T := TX3) (N := 4) S.1 S.2.1 S.2.2.2.2 inlX3 S.2.2.2.1 hw.1 hw.2.1 q0 he rfl 0 (by decide) (va_Nw.use rfl (hw.2.2.2.2.1.1 _ (List.mem_of_getElem? (i := 6) rfl))) (fun _ h9 => h9) hv hdg kk
theorem gf_X8_71 (S : CallFix p m c cc nL s args BIG RX8) (hw : Wd g s A H locs ws) (q0 : Nat) (he : ws[q0]? = some (a, .inr (7, fs))) (hv : fs[1]? = some v) (hdg : decode cc pc = .ok (.getfield 71, 3)) (kk : W p l e R s m args below meth c H locs cells slots Q (F0 m (pc + 3) ls (v :: rest))) : W p l e R s m args below meth c H locs cells slots Q (F0 m pc ls (.ref a :: rest)) :=
  va_get (D := gD g) (C := RX8) (T := TX8) (N := 36) S.1 S.2.1 S.2.2.2.2 inlX8 S.2.2.2.1 hw.1 hw.2.1 q0 he rfl 1 (by decide) (S.2.2.2.2 _ bg_7_16) (fun _ h9 => h9) hv hdg kk
theorem gf_X8_85 (S : CallFix p m c cc nL s args BIG RX8) (hw : Wd g s A H locs ws) (q0 : Nat) (he : ws[q0]? = some (a, .inr (7, fs))) (hv : fs[2]? = some v) (hdg : decode cc pc = .ok (.getfield 85, 3)) (kk : W p l e R s m args below meth c H locs cells slots Q (F0 m (pc + 3) ls (v :: rest))) : W p l e R s m args below meth c H locs cells slots Q (F0 m pc ls (.ref a :: rest)) :=
  va_get (D := gD g) (C := RX8) (T := TX8) (N := 36) S.1 S.2.1 S.2.2.2.2 inlX8 S.2.2.2.1 hw.1 hw.2.1 q0 he rfl 2 (by decide) (S.2.2.2.2 _ bg_8_1) (fun _ h9 => h9) hv hdg kk
theorem gf_X8_88 (S : CallFix p m c cc nL s args BIG RX8) (hw : Wd g s A H locs ws) (q0 : Nat) (he : ws[q0]? = some (a, .inr (7, fs))) (hv : fs[3]? = some v) (hdg : decode cc pc = .ok (.getfield 88, 3)) (kk : W p l e R s m args below meth c H locs cells slots Q (F0 m (pc + 3) ls (v :: rest))) : W p l e R s m args below meth c H locs cells slots Q (F0 m pc ls (.ref a :: rest)) :=
  va_get (D := gD g) (C := RX8) (T := TX8) (N := 36) S.1 S.2.1 S.2.2.2.2 inlX8 S.2.2.2.1 hw.1 hw.2.1 q0 he rfl 3 (by decide) (S.2.2.2.2 _ bg_8_2) (fun _ h9 => h9) hv hdg kk
theorem gf_X8_91 (S : CallFix p m c cc nL s args BIG RX8) (hw : Wd g s A H locs ws) (q0 : Nat) (he : ws[q0]? = some (a, .inr (7, fs))) (hv : fs[4]? = some v) (hdg : decode cc pc = .ok (.getfield 91, 3)) (kk : W p l e R s m args below meth c H locs cells slots Q (F0 m (pc + 3) ls (v :: rest))) : W p l e R s m args below meth c H locs cells slots Q (F0 m pc ls (.ref a :: rest)) :=
  va_get (D := gD g) (C := RX8) (T := TX8) (N := 36) S.1 S.2.1 S.2.2.2.2 inlX8 S.2.2.2.1 hw.1 hw.2.1 q0 he rfl 4 (by decide) (S.2.2.2.2 _ bg_8_3) (fun _ h9 => h9) hv hdg kk
theorem gf_X8_94 (S : CallFix p m c cc nL s args BIG RX8) (hw : Wd g s A H locs ws) (q0 : Nat) (he : ws[q0]? = some (a, .inr (7, fs))) (hv : fs[5]? = some v) (hdg : decode cc pc = .ok (.getfield 94, 3)) (kk : W p l e R s m args below meth c H locs cells slots Q (F0 m (pc + 3) ls (v :: rest))) : W p l e R s m args below meth c H locs cells slots Q (F0 m pc ls (.ref a :: rest)) :=
  va_get (D := gD g) (C := RX8) (T := TX8) (N := 36) S.1 S.2.1 S.2.2.2.2 inlX8 S.2.2.2.1 hw.1 hw.2.1 q0 he rfl 5 (by decide) (S.2.2.2.2 _ bg_8_4) (fun _ h9 => h9) hv hdg kk
theorem gf_X8_97 (S : CallFix p m c cc nL s args BIG RX8) (hw : Wd g s A H locs ws) (q0 : Nat) (he : ws[q0]? = some (a, .inr (7, fs))) (hv : fs[7]? = some v) (hdg : decode cc pc = .ok (.getfield 97, 3)) (kk : W p l e R s m args below meth c H locs cells slots Q (F0 m (pc + 3) ls (v :: rest))) : W p l e R s m args below meth c H locs cells slots Q (F0 m pc ls (.ref a :: rest)) :=
  va_get (D := gD g) (C := RX8) (T := TX8) (N := 36) S.1 S.2.1 S.2.2.2.2 inlX8 S.2.2.2.1 hw.1 hw.2.1 q0 he rfl 7 (by decide) (S.2.2.2.2 _ bg_8_5) (fun _ h9 => h9) hv hdg kk
theorem gf_X8_100 (S : CallFix p m c cc nL s args BIG RX8) (hw : Wd g s A H locs ws) (q0 : Nat) (he : ws[q0]? = some (a, .inr (7, fs))) (hv : fs[8]? = some v) (hdg : decode cc pc = .ok (.getfield 100, 3)) (kk : W p l e R s m args below meth c H locs cells slots Q (F0 m (pc + 3) ls (v :: rest))) : W p l e R s m args below meth c H locs cells slots Q (F0 m pc ls (.ref a :: rest)) :=
  va_get (D := gD g) (C := RX8) (T := TX8) (N := 36) S.1 S.2.1 S.2.2.2.2 inlX8 S.2.2.2.1 hw.1 hw.2.1 q0 he rfl 8 (by decide) (S.2.2.2.2 _ bg_8_6) (fun _ h9 => h9) hv hdg kk
theorem gf_X8_103 (S : CallFix p m c cc nL s args BIG RX8) (hw : Wd g s A H locs ws) (q0 : Nat) (he : ws[q0]? = some (a, .inr (7, fs))) (hv : fs[9]? = some v) (hdg : decode cc pc = .ok (.getfield 103, 3)) (kk : W p l e R s m args below meth c H locs cells slots Q (F0 m (pc + 3) ls (v :: rest))) : W p l e R s m args below meth c H locs cells slots Q (F0 m pc ls (.ref a :: rest)) :=
  va_get (D := gD g) (C := RX8) (T := TX8) (N := 36) S.1 S.2.1 S.2.2.2.2 inlX8 S.2.2.2.1 hw.1 hw.2.1 q0 he rfl 9 (by decide) (S.2.2.2.2 _ bg_8_7) (fun _ h9 => h9) hv hdg kk
theorem gf_X8_108 (S : CallFix p m c cc nL s args BIG RX8) (hw : Wd g s A H locs ws) (q0 : Nat) (he : ws[q0]? = some (a, .inr (7, fs))) (hv : fs[12]? = some v) (hdg : decode cc pc = .ok (.getfield 108, 3)) (kk : W p l e R s m args below meth c H locs cells slots Q (F0 m (pc + 3) ls (v :: rest))) : W p l e R s m args below meth c H locs cells slots Q (F0 m pc ls (.ref a :: rest)) :=
  va_get (D := gD g) (C := RX8) (T := TX8) (N := 36) S.1 S.2.1 S.2.2.2.2 inlX8 S.2.2.2.1 hw.1 hw.2.1 q0 he rfl 12 (by decide) (S.2.2.2.2 _ bg_8_9) (fun _ h9 => h9) hv hdg kk
theorem pf_X8_108 (S : CallFix p m c cc nL s args BIG RX8) (hw : Wd g s A H locs ws) (q0 : Nat) (he : ws[q0]? = some (a, .inr (7, fs))) (hl : 12 < fs.length) (hn : narrow .long v = v) (hfit : fits .long v = true) (hdg : decode cc pc = .ok (.putfield 108, 3)) (kk : ∀ (H1 : Heap) (locs1 : List Loc), Wd g s A H1 locs1 (ws.set q0 (a, .inr (7, fs.set 12 v))) → W p l e R s m args below meth c H1 locs1 cells slots Q (F0 m (pc + 3) ls rest)) : W p l e R s m args below meth c H locs cells slots Q (F0 m pc ls (v :: .ref a :: rest)) :=
  va_put (D := gD g) (C := RX8) (T := TX8) (N := 36) S.1 S.2.1 S.2.2.2.2 inlX8 tyX8 tyX8_ok nmX8 S.2.2.2.1 hw.1 hw.2.1 hw.2.2.1 hw.2.2.2.1 q0 he rfl 12 (by decide) (S.2.2.2.2 _ bg_8_9) (fun _ h9 => h9) rfl (by decide +kernel) hn hfit hl hdg (fun H1 l1 h1 h2 h3 => kk H1 l1 ⟨hw.1, h1, h2, h3, hw.2.2.2.2⟩)
theorem gf_X8_112 (S : CallFix p m c cc nL s args BIG RX8) (hw : Wd g s A H locs ws) (q0 : Nat) (he : ws[q0]? = some (a, .inr (7, fs))) (hv : fs[13]? = some v) (hdg : decode cc pc = .ok (.getfield 112, 3)) (kk : W p l e R s m args below meth c H locs cells slots Q (F0 m (pc + 3) ls (v :: rest))) : W p l e R s m args below meth c H locs cells slots Q (F0 m pc ls (.ref a :: rest)) :=
  va_get (D := gD g) (C := RX8) (T := TX8) (N := 36) S.1 S.2.1 S.2.2.2.2 inlX8 S.2.2.2.1 hw.1 hw.2.1 q0 he rfl 13 (by decide) (S.2.2.2.2 _ bg_8_10) (fun _ h9 => h9) hv hdg kk
theorem pf_X8_112 (S : CallFix p m c cc nL s args BIG RX8) (hw : Wd g s A H locs ws) (q0 : Nat) (he : ws[q0]? = some (a, .inr (7, fs))) (hl : 13 < fs.length) (hn : narrow .long v = v) (hfit : fits .long v = true) (hdg : decode cc pc = .ok (.putfield 112, 3)) (kk : ∀ (H1 : Heap) (locs1 : List Loc), Wd g s A H1 locs1 (ws.set q0 (a, .inr (7, fs.set 13 v))) → W p l e R s m args below meth c H1 locs1 cells slots Q (F0 m (pc + 3) ls rest)) : W p l e R s m args below meth c H locs cells slots Q (F0 m pc ls (v :: .ref a :: rest)) :=
  va_put (D := gD g) (C := RX8) (T := TX8) (N := 36) S.1 S.2.1 S.2.2.2.2 inlX8 tyX8 tyX8_ok nmX8 S.2.2.2.1 hw.1 hw.2.1 hw.2.2.1 hw.2.2.2.1 q0 he rfl 13 (by decide) (S.2.2.2.2 _ bg_8_10) (fun _ h9 => h9) rfl (by decide +kernel) hn hfit hl hdg (fun H1 l1 h1 h2 h3 => kk H1 l1 ⟨hw.1, h1, h2, h3, hw.2.2.2.2⟩)
theorem gf_X8_115 (S : CallFix p m c cc nL s args BIG RX8) (hw : Wd g s A H locs ws) (q0 : Nat) (he : ws[q0]? = some (a, .inr (7, fs))) (hv : fs[14]? = some v) (hdg : decode cc pc = .ok (.getfield 115, 3)) (kk : W p l e R s m args below meth c H locs cells slots Q (F0 m (pc + 3) ls (v :: rest))) : W p l e R s m args below meth c H locs cells slots Q (F0 m pc ls (.ref a :: rest)) :=
  va_get (D := gD g) (C := RX8) (T := TX8) (N := 36) S.1 S.2.1 S.2.2.2.2 inlX8 S.2.2.2.1 hw.1 hw.2.1 q0 he rfl 14 (by decide) (S.2.2.2.2 _ bg_8_11) (fun _ h9 => h9) hv hdg kk
theorem pf_X8_115 (S : CallFix p m c cc nL s args BIG RX8) (hw : Wd g s A H locs ws) (q0 : Nat) (he : ws[q0]? = some (a, .inr (7, fs))) (hl : 14 < fs.length) (hn : narrow .long v = v) (hfit : fits .long v = true) (hdg : decode cc pc = .ok (.putfield 115, 3)) (kk : ∀ (H1 : Heap) (locs1 : List Loc), Wd g s A H1 locs1 (ws.set q0 (a, .inr (7, fs.set 14 v))) → W p l e R s m args below meth c H1 locs1 cells slots Q (F0 m (pc + 3) ls rest)) : W p l e R s m args below meth c H locs cells slots Q (F0 m pc ls (v :: .ref a :: rest)) :=
  va_put (D := gD g) (C := RX8) (T := TX8) (N := 36) S.1 S.2.1 S.2.2.2.2 inlX8 tyX8 tyX8_ok nmX8 S.2.2.2.1 hw.1 hw.2.1 hw.2.2.1 hw.2.2.2.1 q0 he rfl 14 (by decide) (S.2.2.2.2 _ bg_8_11) (fun _ h9 => h9) rfl (by decide +kernel) hn hfit hl hdg (fun H1 l1 h1 h2 h3 => kk H1 l1 ⟨hw.1, h1, h2, h3, hw.2.2.2.2⟩)
theorem gf_X8_118 (S : CallFix p m c cc nL s args BIG RX8) (hw : Wd g s A H locs ws) (q0 : Nat) (he : ws[q0]? = some (a, .inr (7, fs))) (hv : fs[17]? = some v) (hdg : decode cc pc = .ok (.getfield 118, 3)) (kk : W p l e R s m args below meth c H locs cells slots Q (F0 m (pc + 3) ls (v :: rest))) : W p l e R s m args below meth c H locs cells slots Q (F0 m pc ls (.ref a :: rest)) :=
  va_get (D := gD g) (C := RX8) (T := TX8) (N := 36) S.1 S.2.1 S.2.2.2.2 inlX8 S.2.2.2.1 hw.1 hw.2.1 q0 he rfl 17 (by decide) (S.2.2.2.2 _ bg_8_12) (fun _ h9 => h9) hv hdg kk
theorem pf_X8_118 (S : CallFix p m c cc nL s args BIG RX8) (hw : Wd g s A H locs ws) (q0 : Nat) (he : ws[q0]? = some (a, .inr (7, fs))) (hl : 17 < fs.length) (hn : narrow .int v = v) (hfit : fits .int v = true) (hdg : decode cc pc = .ok (.putfield 118, 3)) (kk : ∀ (H1 : Heap) (locs1 : List Loc), Wd g s A H1 locs1 (ws.set q0 (a, .inr (7, fs.set 17 v))) → W p l e R s m args below meth c H1 locs1 cells slots Q (F0 m (pc + 3) ls rest)) : W p l e R s m args below meth c H locs cells slots Q (F0 m pc ls (v :: .ref a :: rest)) :=
  va_put (D := gD g) (C := RX8) (T := TX8) (N := 36) S.1 S.2.1 S.2.2.2.2 inlX8 tyX8 tyX8_ok nmX8 S.2.2.2.1 hw.1 hw.2.1 hw.2.2.1 hw.2.2.2.1 q0 he rfl 17 (by decide) (S.2.2.2.2 _ bg_8_12) (fun _ h9 => h9) rfl (by decide +kernel) hn hfit hl hdg (fun H1 l1 h1 h2 h3 => kk H1 l1 ⟨hw.1, h1, h2, h3, hw.2.2.2.2⟩)
theorem gf_X8_122 (S : CallFix p m c cc nL s args BIG RX8) (hw : Wd g s A H locs ws) (q0 : Nat) (he : ws[q0]? = some (a, .inr (7, fs))) (hv : fs[18]? = some v) (hdg : decode cc pc = .ok (.getfield 122, 3)) (kk : W p l e R s m args below meth c H locs cells slots Q (F0 m (pc + 3) ls (v :: rest))) : W p l e R s m args below meth c H locs cells slots Q (F0 m pc ls (.ref a :: rest)) :=
  va_get (D := gD g) (C := RX8) (T := TX8) (N := 36) S.1 S.2.1 S.2.2.2.2 inlX8 S.2.2.2.1 hw.1 hw.2.1 q0 he rfl 18 (by decide) (S.2.2.2.2 _ bg_8_13) (fun _ h9 => h9) hv hdg kk
theorem gf_X8_125 (S : CallFix p m c cc nL s args BIG RX8) (hw : Wd g s A H locs ws) (q0 : Nat) (he : ws[q0]? = some (a, .inr (7, fs))) (hv : fs[19]? = some v) (hdg : decode cc pc = .ok (.getfield 125, 3)) (kk : W p l e R s m args below meth c H locs cells slots Q (F0 m (pc + 3) ls (v :: rest))) : W p l e R s m args below meth c H locs cells slots Q (F0 m pc ls (.ref a :: rest)) :=
  va_get (D := gD g) (C := RX8) (T := TX8) (N := 36) S.1 S.2.1 S.2.2.2.2 inlX8 S.2.2.2.1 hw.1 hw.2.1 q0 he rfl 19 (by decide) (S.2.2.2.2 _ bg_8_14) (fun _ h9 => h9) hv hdg kk
theorem gf_X8_128 (S : CallFix p m c cc nL s args BIG RX8) (hw : Wd g s A H locs ws) (q0 : Nat) (he : ws[q0]? = some (a, .inr (7, fs))) (hv : fs[20]? = some v) (hdg : decode cc pc = .ok (.getfield 128, 3)) (kk : W p l e R s m args below meth c H locs cells slots Q (F0 m (pc + 3) ls (v :: rest))) : W p l e R s m args below meth c H locs cells slots Q (F0 m pc ls (.ref a :: rest)) :=
  va_get (D := gD g) (C := RX8) (T := TX8) (N := 36) S.1 S.2.1 S.2.2.2.2 inlX8 S.2.2.2.1 hw.1 hw.2.1 q0 he rfl 20 (by decide) (S.2.2.2.2 _ bg_8_15) (fun _ h9 => h9) hv hdg kk
theorem gf_X8_132 (S : CallFix p m c cc nL s args BIG RX8) (hw : Wd g s A H locs ws) (q0 : Nat) (he : ws[q0]? = some (a, .inr (7, fs))) (hv : fs[21]? = some v) (hdg : decode cc pc = .ok (.getfield 132, 3)) (kk : W p l e R s m args below meth c H locs cells slots Q (F0 m (pc + 3) ls (v :: rest))) : W p l e R s m args below meth c H locs cells slots Q (F0 m pc ls (.ref a :: rest)) :=
  va_get (D := gD g) (C := RX8) (T := TX8) (N := 36) S.1 S.2.1 S.2.2.2.2 inlX8 S.2.2.2.1 hw.1 hw.2.1 q0 he rfl 21 (by decide) (S.2.2.2.2 _ bg_8_17) (fun _ h9 => h9) hv hdg kk
theorem gf_X8_136 (S : CallFix p m c cc nL s args BIG RX8) (hw : Wd g s A H locs ws) (q0 : Nat) (he : ws[q0]? = some (a, .inr (7, fs))) (hv : fs[22]? = some v) (hdg : decode cc pc = .ok (.getfield 136, 3)) (kk : W p l e R s m args below meth c H locs cells slots Q (F0 m (pc + 3) ls (v :: rest))) : W p l e R s m args below meth c H locs cells slots Q (F0 m pc ls (.ref a :: rest)) :=
  va_get (D := gD g) (C := RX8) (T := TX8) (N := 36) S.1 S.2.1 S.2.2.2.2 inlX8 S.2.2.2.1 hw.1 hw.2.1 q0 he rfl 22 (by decide) (S.2.2.2.2 _ bg_8_18) (fun _ h9 => h9) hv hdg kk
theorem gf_X8_139 (S : CallFix p m c cc nL s args BIG RX8) (hw : Wd g s A H locs ws) (q0 : Nat) (he : ws[q0]? = some (a, .inr (7, fs))) (hv : fs[23]? = some v) (hdg : decode cc pc = .ok (.getfield 139, 3)) (kk : W p l e R s m args below meth c H locs cells slots Q (F0 m (pc + 3) ls (v :: rest))) : W p l e R s m args below meth c H locs cells slots Q (F0 m pc ls (.ref a :: rest)) :=
  va_get (D := gD g) (C := RX8) (T := TX8) (N := 36) S.1 S.2.1 S.2.2.2.2 inlX8 S.2.2.2.1 hw.1 hw.2.1 q0 he rfl 23 (by decide) (S.2.2.2.2 _ bg_8_19) (fun _ h9 => h9) hv hdg kk
theorem gf_X8_142 (S : CallFix p m c cc nL s args BIG RX8) (hw : Wd g s A H locs ws) (q0 : Nat) (he : ws[q0]? = some (a, .inr (7, fs))) (hv : fs[24]? = some v) (hdg : decode cc pc = .ok (.getfield 142, 3)) (kk : W p l e R s m args below meth c H locs cells slots Q (F0 m (pc + 3) ls (v :: rest))) : W p l e R s m args below meth c H locs cells slots Q (F0 m pc ls (.ref a :: rest)) :=
  va_get (D := gD g) (C := RX8) (T := TX8) (N := 36) S.1 S.2.1 S.2.2.2.2 inlX8 S.2.2.2.1 hw.1 hw.2.1 q0 he rfl 24 (by decide) (S.2.2.2.2 _ bg_8_20) (fun _ h9 => h9) hv hdg kk
theorem gf_X8_145 (S : CallFix p m c cc nL s args BIG RX8) (hw : Wd g s A H locs ws) (q0 : Nat) (he : ws[q0]? = some (a, .inr (7, fs))) (hv : fs[25]? = some v) (hdg : decode cc pc = .ok (.getfield 145, 3)) (kk : W p l e R s m args below meth c H locs cells slots Q (F0 m (pc + 3) ls (v :: rest))) : W p l e R s m args below meth c H locs cells slots Q (F0 m pc ls (.ref a :: rest)) :=
  va_get (D := gD g) (C := RX8) (T := TX8) (N := 36) S.1 S.2.1 S.2.2.2.2 inlX8 S.2.2.2.1 hw.1 hw.2.1 q0 he rfl 25 (by decide) (S.2.2.2.2 _ bg_8_21) (fun _ h9 => h9) hv hdg kk
theorem gf_X8_148 (S : CallFix p m c cc nL s args BIG RX8) (hw : Wd g s A H locs ws) (q0 : Nat) (he : ws[q0]? = some (a, .inr (7, fs))) (hv : fs[26]? = some v) (hdg : decode cc pc = .ok (.getfield 148, 3)) (kk : W p l e R s m args below meth c H locs cells slots Q (F0 m (pc + 3) ls (v :: rest))) : W p l e R s m args below meth c H locs cells slots Q (F0 m pc ls (.ref a :: rest)) :=
  va_get (D := gD g) (C := RX8) (T := TX8) (N := 36) S.1 S.2.1 S.2.2.2.2 inlX8 S.2.2.2.1 hw.1 hw.2.1 q0 he rfl 26 (by decide) (S.2.2.2.2 _ bg_8_22) (fun _ h9 => h9) hv hdg kk
theorem gf_X8_151 (S : CallFix p m c cc nL s args BIG RX8) (hw : Wd g s A H locs ws) (q0 : Nat) (he : ws[q0]? = some (a, .inr (7, fs))) (hv : fs[27]? = some v) (hdg : decode cc pc = .ok (.getfield 151, 3)) (kk : W p l e R s m args below meth c H locs cells slots Q (F0 m (pc + 3) ls (v :: rest))) : W p l e R s m args below meth c H locs cells slots Q (F0 m pc ls (.ref a :: rest)) :=
  va_get (D := gD g) (C := RX8) (T := TX8) (N := 36) S.1 S.2.1 S.2.2.2.2 inlX8 S.2.2.2.1 hw.1 hw.2.1 q0 he rfl 27 (by decide) (S.2.2.2.2 _ bg_8_23) (fun _ h9 => h9) hv hdg kk
theorem gf_X8_154 (S : CallFix p m c cc nL s args BIG RX8) (hw : Wd g s A H locs ws) (q0 : Nat) (he : ws[q0]? = some (a, .inr (7, fs))) (hv : fs[28]? = some v) (hdg : decode cc pc = .ok (.getfield 154, 3)) (kk : W p l e R s m args below meth c H locs cells slots Q (F0 m (pc + 3) ls (v :: rest))) : W p l e R s m args below meth c H locs cells slots Q (F0 m pc ls (.ref a :: rest)) :=
  va_get (D := gD g) (C := RX8) (T := TX8) (N := 36) S.1 S.2.1 S.2.2.2.2 inlX8 S.2.2.2.1 hw.1 hw.2.1 q0 he rfl 28 (by decide) (S.2.2.2.2 _ bg_9_0) (fun _ h9 => h9) hv hdg kk
theorem gf_X8_157 (S : CallFix p m c cc nL s args BIG RX8) (hw : Wd g s A H locs ws) (q0 : Nat) (he : ws[q0]? = some (a, .inr (7, fs))) (hv : fs[29]? = some v) (hdg : decode cc pc = .ok (.getfield 157, 3)) (kk : W p l e R s m args below meth c H locs cells slots Q (F0 m (pc + 3) ls (v :: rest))) : W p l e R s m args below meth c H locs cells slots Q (F0 m pc ls (.ref a :: rest)) :=
  va_get (D := gD g) (C := RX8) (T := TX8) (N := 36) S.1 S.2.1 S.2.2.2.2 inlX8 S.2.2.2.1 hw.1 hw.2.1 q0 he rfl 29 (by decide) (S.2.2.2.2 _ bg_9_1) (fun _ h9 => h9) hv hdg kk
theorem gf_X8_160 (S : CallFix p m c cc nL s args BIG RX8) (hw : Wd g s A H locs ws) (q0 : Nat) (he : ws[q0]? = some (a, .inr (7, fs))) (hv : fs[30]? = some v) (hdg : decode cc pc = .ok (.getfield 160, 3)) (kk : W p l e R s m args below meth c H locs cells slots Q (F0 m (pc + 3) ls (v :: rest))) : W p l e R s m args below meth c H locs cells slots Q (F0 m pc ls (.ref a :: rest)) :=
  va_get (D := gD g) (C := RX8) (T := TX8) (N := 36) S.1 S.2.1 S.2.2.2.2 inlX8 S.2.2.2.1 hw.1 hw.2.1 q0 he rfl 30 (by decide) (S.2.2.2.2 _ bg_9_2) (fun _ h9 => h9) hv hdg kk
theorem gf_X8_163 (S : CallFix p m c cc nL s args BIG RX8) (hw : Wd g s A H locs ws) (q0 : Nat) (he : ws[q0]? = some (a, .inr (7, fs))) (hv : fs[31]? = some v) (hdg : decode cc pc = .ok (.getfield 163, 3)) (kk : W p l e R s m args below meth c H locs cells slots Q (F0 m (pc + 3) ls (v :: rest))) : W p l e R s m args below meth c H locs cells slots Q (F0 m pc ls (.ref a :: rest)) :=
  va_get (D := gD g) (C := RX8) (T := TX8) (N := 36) S.1 S.2.1 S.2.2.2.2 inlX8 S.2.2.2.1 hw.1 hw.2.1 q0 he rfl 31 (by decide) (S.2.2.2.2 _ bg_9_3) (fun _ h9 => h9) hv hdg kk
theorem gf_X8_166 (S : CallFix p m c cc nL s args BIG RX8) (hw : Wd g s A H locs ws) (q0 : Nat) (he : ws[q0]? = some (a, .inr (7, fs))) (hv : fs[0]? = some v) (hdg : decode cc pc = .ok (.getfield 166, 3)) (kk : W p l e R s m args below meth c H locs cells slots Q (F0 m (pc + 3) ls (v :: rest))) : W p l e R s m args below meth c H locs cells slots Q (F0 m pc ls (.ref a :: rest)) :=
  va_get (D := gD g) (C := RX8) (T := TX8) (N := 36) S.1 S.2.1 S.2.2.2.2 inlX8 S.2.2.2.1 hw.1 hw.2.1 q0 he rfl 0 (by decide) (S.2.2.2.2 _ bg_9_15) (fun _ h9 => h9) hv hdg kk
theorem pf_X8_166 (S : CallFix p m c cc nL s args BIG RX8) (hw : Wd g s A H locs ws) (q0 : Nat) (he : ws[q0]? = some (a, .inr (7, fs))) (hl : 0 < fs.length) (hn : narrow .int v = v) (hfit : fits .int v = true) (hdg : decode cc pc = .ok (.putfield 166, 3)) (kk : ∀ (H1 : Heap) (locs1 : List Loc), Wd g s A H1 locs1 (ws.set q0 (a, .inr (7, fs.set 0 v))) → W p l e R s m args below meth c H1 locs1 cells slots Q (F0 m (pc + 3) ls rest)) : W p l e R s m args below meth c H locs cells slots Q (F0 m pc ls (v :: .ref a :: rest)) :=
  va_put (D := gD g) (C := RX8) (T := TX8) (N := 36) S.1 S.2.1 S.2.2.2.2 inlX8 tyX8 tyX8_ok nmX8 S.2.2.2.1 hw.1 hw.2.1 hw.2.2.1 hw.2.2.2.1 q0 he rfl 0 (by decide) (S.2.2.2.2 _ bg_9_15) (fun _ h9 => h9) rfl (by decide +kernel) hn hfit hl hdg (fun H1 l1 h1 h2 h3 => kk H1 l1 ⟨hw.1, h1, h2, h3, hw.2.2.2.2⟩)
theorem gf_X8_173 (S : CallFix p m c cc nL s args BIG RX8) (hw : Wd g s A H locs ws) (q0 : Nat) (he : ws[q0]? = some (a, .inr (7, fs))) (hv : fs[6]? = some v) (hdg : decode cc pc = .ok (.getfield 173, 3)) (kk : W p l e R s m args below meth c H locs cells slots Q (F0 m (pc + 3) ls (v :: rest))) : W p l e R s m args below meth c H locs cells slots Q (F0 m pc ls (.ref a :: rest)) :=
  va_get (D := gD g) (C := RX8) (T := TX8) (N := 36) S.1 S.2.1 S.2.2.2.2 inlX8 S.2.2.2.1 hw.1 hw.2.1 q0 he rfl 6 (by decide) (S.2.2.2.2 _ bg_19_15) (fun _ h9 => h9) hv hdg kk
theorem pf_X8_173 (S : CallFix p m c cc nL s args BIG RX8) (hw : Wd g s A H locs ws) (q0 : Nat) (he : ws[q0]? = some (a, .inr (7, fs))) (hl : 6 < fs.length) (hn : narrow .int v = v) (hfit : fits .int v = true) (hdg : decode cc pc = .ok (.putfield 173, 3)) (kk : ∀ (H1 : Heap) (locs1 : List Loc), Wd g s A H1 locs1 (ws.set q0 (a, .inr (7, fs.set 6 v))) → W p l e R s m args below meth c H1 locs1 cells slots Q (F0 m (pc + 3) ls rest)) : W p l e R s m args below meth c H locs cells slots Q (F0 m pc ls (v :: .ref a :: rest)) :=
  va_put (D := gD g) (C := RX8) (T := TX8) (N := 36) S.1 S.2.1 S.2.2.2.2 inlX8 tyX8 tyX8_ok nmX8 S.2.2.2.1 hw.1 hw.2.1 hw.2.2.1 hw.2.2.2.1 q0 he rfl 6 (by decide) (S.2.2.2.2 _ bg_19_15) (fun _ h9 => h9) rfl (by decide +kernel) hn hfit hl hdg (fun H1 l1 h1 h2 h3 => kk H1 l1 ⟨hw.1, h1, h2, h3, hw.2.2.2.2⟩)
theorem gf_X8_180 (S : CallFix p m c cc nL s args BIG RX8) (hw : Wd g s A H locs ws) (q0 : Nat) (he : ws[q0]? = some (a, .inr (7, fs))) (hv : fs[10]? = some v) (hdg : decode cc pc = .ok (.getfield 180, 3)) (kk : W p l e R s m args below meth c H locs cells slots Q (F0 m (pc + 3) ls (v :: rest))) : W p l e R s m args below meth c H locs cells slots Q (F0 m pc ls (.ref a :: rest)) :=
  va_get (D := gD g) (C := RX8) (T := TX8) (N := 36) S.1 S.2.1 S.2.2.2.2 inlX8 S.2.2.2.1 hw.1 hw.2.1 q0 he rfl 10 (by decide) (S.2.2.2.2 _ bg_19_6) (fun _ h9 => h9) hv hdg kk
theorem pf_X8_180 (S : CallFix p m c cc nL s args BIG RX8) (hw : Wd g s A H locs ws) (q0 : Nat) (he : ws[q0]? = some (a, .inr (7, fs))) (hl : 10 < fs.length) (hn : narrow .int v = v) (hfit : fits .int v = true) (hdg : decode cc pc = .ok (.putfield 180, 3)) (kk : ∀ (H1 : Heap) (locs1 : List Loc), Wd g s A H1 locs1 (ws.set q0 (a, .inr (7, fs.set 10 v))) → W p l e R s m args below meth c H1 locs1 cells slots Q (F0 m (pc + 3) ls rest)) : W p l e R s m args below meth c H locs cells slots Q (F0 m pc ls (v :: .ref a :: rest)) :=
  va_put (D := gD g) (C := RX8) (T := TX8) (N := 36) S.1 S.2.1 S.2.2.2.2 inlX8 tyX8 tyX8_ok nmX8 S.2.2.2.1 hw.1 hw.2.1 hw.2.2.1 hw.2.2.2.1 q0 he rfl 10 (by decide) (S.2.2.2.2 _ bg_19_6) (fun _ h9 => h9) rfl (by decide +kernel) hn hfit hl hdg (fun H1 l1 h1 h2 h3 => kk H1 l1 ⟨hw.1, h1, h2, h3, hw.2.2.2.2⟩)
theorem gf_X8_186 (S : CallFix p m c cc nL s args BIG RX8) (hw : Wd g s A H locs ws) (q0 : Nat) (he : ws[q0]? = some (a, .inr (7, fs))) (hv : fs[15]? = some v) (hdg : decode cc pc = .ok (.getfield 186, 3)) (kk : W p l e R s m args below meth c H locs cells slots Q (F0 m (pc + 3) ls (v :: rest))) : W p l e R s m args below meth c H locs cells slots Q (F0 m pc ls (.ref a :: rest)) :=
  va_get (D := gD g) (C := RX8) (T := TX8) (N := 36) S.1 S.2.1 S.2.2.2.2 inlX8 S.2.2.2.1 hw.1 hw.2.1 q0 he rfl 15 (by decide) (S.2.2.2.2 _ bg_9_16) (fun _ h9 => h9) hv hdg kk
theorem pf_X8_186 (S : CallFix p m c cc nL s args BIG RX8) (hw : Wd g s A H locs ws) (q0 : Nat) (he : ws[q0]? = some (a, .inr (7, fs))) (hl : 15 < fs.length) (hn : narrow .long v = v) (hfit : fits .long v = true) (hdg : decode cc pc = .ok (.putfield 186, 3)) (kk : ∀ (H1 : Heap) (locs1 : List Loc), Wd g s A H1 locs1 (ws.set q0 (a, .inr (7, fs.set 15 v))) → W p l e R s m args below meth c H1 locs1 cells slots Q (F0 m (pc + 3) ls rest)) : W p l e R s m args below meth c H locs cells slots Q (F0 m pc ls (v :: .ref a :: rest)) :=
  va_put (D := gD g) (C := RX8) (T := TX8) (N := 36) S.1 S.2.1 S.2.2.2.2 inlX8 tyX8 tyX8_ok nmX8 S.2.2.2.1 hw.1 hw.2.1 hw.2.2.1 hw.2.2.2.1 q0 he rfl 15 (by decide) (S.2.2.2.2 _ bg_9_16) (fun _ h9 => h9) rfl (by decide +kernel) hn hfit hl hdg (fun H1 l1 h1 h2 h3 => kk H1 l1 ⟨hw.1, h1, h2, h3, hw.2.2.2.2⟩)
theorem gf_X8_191 (S : CallFix p m c cc nL s args BIG RX8) (hw : Wd g s A H locs ws) (q0 : Nat) (he : ws[q0]? = some (a, .inr (7, fs))) (hv : fs[16]? = some v) (hdg : decode cc pc = .ok (.getfield 191, 3)) (kk : W p l e R s m args below meth c H locs cells slots Q (F0 m (pc + 3) ls (v :: rest))) : W p l e R s m args below meth c H locs cells slots Q (F0 m pc ls (.ref a :: rest)) :=
  va_get (D := gD g) (C := RX8) (T := TX8) (N := 36) S.1 S.2.1 S.2.2.2.2 inlX8 S.2.2.2.1 hw.1 hw.2.1 q0 he rfl 16 (by decide) (S.2.2.2.2 _ bg_9_17) (fun _ h9 => h9) hv hdg kk
theorem pf_X8_191 (S : CallFix p m c cc nL s args BIG RX8) (hw : Wd g s A H locs ws) (q0 : Nat) (he : ws[q0]? = some (a, .inr (7, fs))) (hl : 16 < fs.length) (hn : narrow .long v = v) (hfit : fits .long v = true) (hdg : decode cc pc = .ok (.putfield 191, 3)) (kk : ∀ (H1 : Heap) (locs1 : List Loc), Wd g s A H1 locs1 (ws.set q0 (a, .inr (7, fs.set 16 v))) → W p l e R s m args below meth c H1 locs1 cells slots Q (F0 m (pc + 3) ls rest)) : W p l e R s m args below meth c H locs cells slots Q (F0 m pc ls (v :: .ref a :: rest)) :=
  va_put (D := gD g) (C := RX8) (T := TX8) (N := 36) S.1 S.2.1 S.2.2.2.2 inlX8 tyX8 tyX8_ok nmX8 S.2.2.2.1 hw.1 hw.2.1 hw.2.2.1 hw.2.2.2.1 q0 he rfl 16 (by decide) (S.2.2.2.2 _ bg_9_17) (fun _ h9 => h9) rfl (by decide +kernel) hn hfit hl hdg (fun H1 l1 h1 h2 h3 => kk H1 l1 ⟨hw.1, h1, h2, h3, hw.2.2.2.2⟩)
theorem gf_X8_231 (S : CallFix p m c cc nL s args BIG RX8) (hw : Wd g s A H locs ws) (q0 : Nat) (he : ws[q0]? = some (a, .inr (7, fs))) (hv : fs[11]? = some v) (hdg : decode cc pc = .ok (.getfield 231, 3)) (kk : W p l e R s m args below meth c H locs cells slots Q (F0 m (pc + 3) ls (v :: rest))) : W p l e R s m args below meth c H locs cells slots Q (F0 m pc ls (.ref a :: rest)) :=
  va_get (D := gD g) (C := RX8) (T := TX8) (N := 36) S.1 S.2.1 S.2.2.2.2 inlX8 S.2.2.2.1 hw.1 hw.2.1 q0 he rfl 11 (by decide) (S.2.2.2.2 _ bg_10_11) (fun _ h9 => h9) hv hdg kk
theorem pf_X8_231 (S : CallFix p m c cc nL s args BIG RX8) (hw : Wd g s A H locs ws) (q0 : Nat) (he : ws[q0]? = some (a, .inr (7, fs))) (hl : 11 < fs.length) (hn : narrow .long v = v) (hfit : fits .long v = true) (hdg : decode cc pc = .ok (.putfield 231, 3)) (kk : ∀ (H1 : Heap) (locs1 : List Loc), Wd g s A H1 locs1 (ws.set q0 (a, .inr (7, fs.set 11 v))) → W p l e R s m args below meth c H1 locs1 cells slots Q (F0 m (pc + 3) ls rest)) : W p l e R s m args below meth c H locs cells slots Q (F0 m pc ls (v :: .ref a :: rest)) :=
  va_put (D := gD g) (C := RX8) (T := TX8) (N := 36) S.1 S.2.1 S.2.2.2.2 inlX8 tyX8 tyX8_ok nmX8 S.2.2.2.1 hw.1 hw.2.1 hw.2.2.1 hw.2.2.2.1 q0 he rfl 11 (by decide) (S.2.2.2.2 _ bg_10_11) (fun _ h9 => h9) rfl (by decide +kernel) hn hfit hl hdg (fun H1 l1 h1 h2 h3 => kk H1 l1 ⟨hw.1, h1, h2, h3, hw.2.2.2.2⟩)
theorem gf_X8_258 (S : CallFix p m c cc nL s args BIG RX8) (hw : Wd g s A H locs ws) (q0 : Nat) (he : ws[q0]? = some (a, .inr (7, fs))) (hv : fs[35]? = some v) (hdg : decode cc pc = .ok (.getfield 258, 3)) (kk : W p l e R s m args below meth c H locs cells slots Q (F0 m (pc + 3) ls (v :: rest))) : W p l e R s m args below meth c H locs cells slots Q (F0 m pc ls (.ref a :: rest)) :=
  va_get (D := gD g) (C := RX8) (T := TX8) (N := 36) S.1 S.2.1 S.2.2.2.2 inlX8 S.2.2.2.1 hw.1 hw.2.1 q0 he rfl 35 (by decide) (S.2.2.2.2 _ bg_26_1) (fun _ h9 => h9) hv hdg kk
theorem pf_X8_258 (S : CallFix p m c cc nL s args BIG RX8) (hw : Wd g s A H locs ws) (q0 : Nat) (he : ws[q0]? = some (a, .inr (7, fs))) (hl : 35 < fs.length) (hn : narrow .int v = v) (hfit : fits .int v = true) (hdg : decode cc pc = .ok (.putfield 258, 3)) (kk : ∀ (H1 : Heap) (locs1 : List Loc), Wd g s A H1 locs1 (ws.set q0 (a, .inr (7, fs.set 35 v))) → W p l e R s m args below meth c H1 locs1 cells slots Q (F0 m (pc + 3) ls rest)) : W p l e R s m args below meth c H locs cells slots Q (F0 m pc ls (v :: .ref a :: rest)) :=
  va_put (D := gD g) (C := RX8) (T := TX8) (N := 36) S.1 S.2.1 S.2.2.2.2 inlX8 tyX8 tyX8_ok nmX8 S.2.2.2.1 hw.1 hw.2.1 hw.2.2.1 hw.2.2.2.1 q0 he rfl 35 (by decide) (S.2.2.2.2 _ bg_26_1) (fun _ h9 => h9) rfl (by decide +kernel) hn hfit hl hdg (fun H1 l1 h1 h2 h3 => kk H1 l1 ⟨hw.1, h1, h2, h3, hw.2.2.2.2⟩)
theorem gf_X8_268 (S : CallFix p m c cc nL s args BIG RX8) (hw : Wd g s A H locs ws) (q0 : Nat) (he : ws[q0]? = some (a, .inr (7, fs))) (hv : fs[33]? = some v) (hdg : decode cc pc = .ok (.getfield 268, 3)) (kk : W p l e R s m args below meth c H locs cells slots Q (F0 m (pc + 3) ls (v :: rest))) : W p l e R s m args below meth c H locs cells slots Q (F0 m pc ls (.ref a :: rest)) :=
  va_get (D := gD g) (C := RX8) (T := TX8) (N := 36) S.1 S.2.1 S.2.2.2.2 inlX8 S.2.2.2.1 hw.1 hw.2.1 q0 he rfl 33 (by decide) (S.2.2.2.2 _ bg_25_23) (fun _ h9 => h9) hv hdg kk
theorem pf_X8_268 (S : CallFix p m c cc nL s args BIG RX8) (hw : Wd g s A H locs ws) (q0 : Nat) (he : ws[q0]? = some (a, .inr (7, fs))) (hl : 33 < fs.length) (hn : narrow .int v = v) (hfit : fits .int v = true) (hdg : decode cc pc = .ok (.putfield 268, 3)) (kk : ∀ (H1 : Heap) (locs1 : List Loc), Wd g s A H1 locs1 (ws.set q0 (a, .inr (7, fs.set 33 v))) → W p l e R s m args below meth c H1 locs1 cells slots Q (F0 m (pc + 3) ls rest)) : W p l e R s m args below meth c H locs cells slots Q (F0 m pc ls (v :: .ref a :: rest)) :=
  va_put (D := gD g) (C := RX8) (T := TX8) (N := 36) S.1 S.2.1 S.2.2.2.2 inlX8 tyX8 tyX8_ok nmX8 S.2.2.2.1 hw.1 hw.2.1 hw.2.2.1 hw.2.2.2.1 q0 he rfl 33 (by decide) (S.2.2.2.2 _ bg_25_23) (fun _ h9 => h9) rfl (by decide +kernel) hn hfit hl hdg (fun H1 l1 h1 h2 h3 => kk H1 l1 ⟨hw.1, h1, h2, h3, hw.2.2.2.2⟩)
theorem gf_X8_271 (S : CallFix p m c cc nL s args BIG RX8) (hw : Wd g s A H locs ws) (q0 : Nat) (he : ws[q0]? = some (a, .inr (7, fs))) (hv : fs[32]? = some v) (hdg : decode cc pc = .ok (.getfield 271, 3)) (kk : W p l e R s m args below meth c H locs cells slots Q (F0 m (pc + 3) ls (v :: rest))) : W p l e R s m args below meth c H locs cells slots Q (F0 m pc ls (.ref a :: rest)) :=
  va_get (D := gD g) (C := RX8) (T := TX8) (N := 36) S.1 S.2.1 S.2.2.2.2 inlX8 S.2.2.2.1 hw.1 hw.2.1 q0 he rfl 32 (by decide) (S.2.2.2.2 _ bg_26_0) (fun _ h9 => h9) hv hdg kk
theorem pf_X8_271 (S : CallFix p m c cc nL s args BIG RX8) (hw : Wd g s A H locs ws) (q0 : Nat) (he : ws[q0]? = some (a, .inr (7, fs))) (hl : 32 < fs.length) (hn : narrow .int v = v) (hfit : fits .int v = true) (hdg : decode cc pc = .ok (.putfield 271, 3)) (kk : ∀ (H1 : Heap) (locs1 : List Loc), Wd g s A H1 locs1 (ws.set q0 (a, .inr (7, fs.set 32 v))) → W p l e R s m args below meth c H1 locs1 cells slots Q (F0 m (pc + 3) ls rest)) : W p l e R s m args below meth c H locs cells slots Q (F0 m pc ls (v :: .ref a :: rest)) :=
  va_put (D := gD g) (C := RX8) (T := TX8) (N := 36) S.1 S.2.1 S.2.2.2.2 inlX8 tyX8 tyX8_ok nmX8 S.2.2.2.1 hw.1 hw.2.1 hw.2.2.1 hw.2.2.2.1 q0 he rfl 32 (by decide) (S.2.2.2.2 _ bg_26_0) (fun _ h9 => h9) rfl (by decide +kernel) hn hfit hl hdg (fun H1 l1 h1 h2 h3 => kk H1 l1 ⟨hw.1, h1, h2, h3, hw.2.2.2.2⟩)
theorem gf_X8_274 (S : CallFix p m c cc nL s args BIG RX8) (hw : Wd g s A H locs ws) (q0 : Nat) (he : ws[q0]? = some (a, .inr (7, fs))) (hv : fs[34]? = some v) (hdg : decode cc pc = .ok (.getfield 274, 3)) (kk : W p l e R s m args below meth c H locs cells slots Q (F0 m (pc + 3) ls (v :: rest))) : W p l e R s m args below meth c H locs cells slots Q (F0 m pc ls (.ref a :: rest)) :=
  va_get (D := gD g) (C := RX8) (T := TX8) (N := 36) S.1 S.2.1 S.2.2.2.2 inlX8 S.2.2.2.1 hw.1 hw.2.1 q0 he rfl 34 (by decide) (S.2.2.2.2 _ bg_26_2) (fun _ h9 => h9) hv hdg kk
theorem pf_X8_274 (S : CallFix p m c cc nL s args BIG RX8) (hw : Wd g s A H locs ws) (q0 : Nat) (he : ws[q0]? = some (a, .inr (7, fs))) (hl : 34 < fs.length) (hn : narrow .int v = v) (hfit : fits .int v = true) (hdg : decode cc pc = .ok (.putfield 274, 3)) (kk : ∀ (H1 : Heap) (locs1 : List Loc), Wd g s A H1 locs1 (ws.set q0 (a, .inr (7, fs.set 34 v))) → W p l e R s m args below meth c H1 locs1 cells slots Q (F0 m (pc + 3) ls rest)) : W p l e R s m args below meth c H locs cells slots Q (F0 m pc ls (v :: .ref a :: rest)) :=
  va_put (D := gD g) (C := RX8) (T := TX8) (N := 36) S.1 S.2.1 S.2.2.2.2 inlX8 tyX8 tyX8_ok nmX8 S.2.2.2.1 hw.1 hw.2.1 hw.2.2.1 hw.2.2.2.1 q0 he rfl 34 (by decide) (S.2.2.2.2 _ bg_26_2) (fun _ h9 => h9) rfl (by decide +kernel) hn hfit hl hdg (fun H1 l1 h1 h2 h3 => kk H1 l1 ⟨hw.1, h1, h2, h3, hw.2.2.2.2⟩)
theorem cw_J0_335 {R : Room} {s : State} {args : Array Value} {fr lo : Nat} (hB : ∀ w ∈ BIG, w.before args s = true) (hR : fr + 1 ≤ R.frames ∧ 8 + (1 + 11) + lo ≤ R.locals) : CallW R s args RJ0 RJ0 335 yJ0_coder_7d493 cJ0_coder_7d493 1 (some .byte) (Cond.code yJ0_coder_7d493 cJ0_coder_7d493 1 (some .byte) :: BIG) (rmm fr lo) 0 0 0 := cwV 0 hB (goodV bg_22_11 bg_22_12 bg_22_13 bg_16_15 bg_22_14) rfl rfl rfl (by decide +kernel) hR
theorem cw_J0_492 {R : Room} {s : State} {args : Array Value} {fr lo : Nat} (hB : ∀ w ∈ BIG, w.before args s = true) (hR : fr + 1 ≤ R.frames ∧ 8 + (1 + 11) + lo ≤ R.locals) : CallW R s args RJ0 RJ0 492 yJ0_isLatin1_aae02 cJ0_isLatin1_aae02 1 (some .boolean) (Cond.code yJ0_isLatin1_aae02 cJ0_isLatin1_aae02 1 (some .boolean) :: BIG) (rmm fr lo) 0 0 0 := cwV 0 hB (goodV bg_16_18 bg_16_19 bg_16_20 bg_16_15 bg_16_21) rfl rfl rfl (by decide +kernel) hR
theorem cw_J0_495 {R : Room} {s : State} {args : Array Value} {fr lo : Nat} (hB : ∀ w ∈ BIG, w.before args s = true) (hR : fr + 1 ≤ R.frames ∧ 8 + (2 + 11) + lo ≤ R.locals) : CallB R s args RJ0 495 yJ1_charAt_3b067 cJ1_charAt_3b067 2 (some .char) (Cond.code yJ1_charAt_3b067 cJ1_charAt_3b067 2 (some .char) :: BIG) (rmm fr lo) 0 0 2 ∧ (Cond.static yJ1_charAt_3b067).before args s = true := va_cwS 2 hB (goodS bg_17_0 bg_17_1 bg_17_2 bg_17_3) rfl rfl rfl (by decide +kernel) hR
theorem cw_J0_498 {R : Room} {s : State} {args : Array Value} {fr lo : Nat} (hB : ∀ w ∈ BIG, w.before args s = true) (hR : fr + 1 ≤ R.frames ∧ 8 + (2 + 11) + lo ≤ R.locals) : CallB R s args RJ0 498 yJ2_charAt_3b067 cJ2_charAt_3b067 2 (some .char) (Cond.code yJ2_charAt_3b067 cJ2_charAt_3b067 2 (some .char) :: BIG) (rmm fr lo) 0 0 2 ∧ (Cond.static yJ2_charAt_3b067).before args s = true := va_cwS 2 hB (goodS bg_17_12 bg_17_13 bg_17_14 bg_17_15) rfl rfl rfl (by decide +kernel) hR
theorem cw_J0_505 {R : Room} {s : State} {args : Array Value} {fr lo : Nat} (hB : ∀ w ∈ BIG, w.before args s = true) (hR : fr + 1 ≤ R.frames ∧ 8 + (1 + 11) + lo ≤ R.locals) : CallW R s args RJ0 RJ0 505 yJ0_length_8abf5 cJ0_length_8abf5 1 (some .int) (Cond.code yJ0_length_8abf5 cJ0_length_8abf5 1 (some .int) :: BIG) (rmm fr lo) 0 0 0 := cwV 0 hB (goodV bg_22_7 bg_22_8 bg_22_9 bg_16_15 bg_22_10) rfl rfl rfl (by decide +kernel) hR
theorem cw_J0_633 {R : Room} {s : State} {args : Array Value} {fr lo : Nat} (hB : ∀ w ∈ BIG, w.before args s = true) (hR : fr + 1 ≤ R.frames ∧ 8 + (3 + 11) + lo ≤ R.locals) : CallW R s args RJ0 RJ0 633 yJ0_indexOf_7cf53 cJ0_indexOf_7cf53 3 (some .int) (Cond.code yJ0_indexOf_7cf53 cJ0_indexOf_7cf53 3 (some .int) :: BIG) (rmm fr lo) 0 0 2 := cwV 2 hB (goodV bg_22_3 bg_22_4 bg_22_5 bg_16_15 bg_22_6) rfl rfl rfl (by decide +kernel) hR
theorem cw_J0_637 {R : Room} {s : State} {args : Array Value} {fr lo : Nat} (hB : ∀ w ∈ BIG, w.before args s = true) (hR : fr + 1 ≤ R.frames ∧ 8 + (4 + 11) + lo ≤ R.locals) : CallB R s args RJ0 637 yJ1_indexOf_4cfef cJ1_indexOf_4cfef 4 (some .int) (Cond.code yJ1_indexOf_4cfef cJ1_indexOf_4cfef 4 (some .int) :: BIG) (rmm fr lo) 0 0 4 ∧ (Cond.static yJ1_indexOf_4cfef).before args s = true := va_cwS 4 hB (goodS bg_22_15 bg_22_16 bg_17_2 bg_22_17) rfl rfl rfl (by decide +kernel) hR
theorem cw_J0_640 {R : Room} {s : State} {args : Array Value} {fr lo : Nat} (hB : ∀ w ∈ BIG, w.before args s = true) (hR : fr + 1 ≤ R.frames ∧ 8 + (4 + 11) + lo ≤ R.locals) : CallB R s args RJ0 640 yJ2_indexOf_4cfef cJ2_indexOf_4cfef 4 (some .int) (Cond.code yJ2_indexOf_4cfef cJ2_indexOf_4cfef 4 (some .int) :: BIG) (rmm fr lo) 0 0 4 ∧ (Cond.static yJ2_indexOf_4cfef).before args s = true := va_cwS 4 hB (goodS bg_23_7 bg_23_8 bg_17_14 bg_23_9) rfl rfl rfl (by decide +kernel) hR
theorem cw_J0_1059 {R : Room} {s : State} {args : Array Value} {fr lo : Nat} (hB : ∀ w ∈ BIG, w.before args s = true) (hR : fr + 1 ≤ R.frames ∧ 8 + (3 + 11) + lo ≤ R.locals) : CallB R s args RJ0 1059 yJ3_checkIndex_8e157 cJ3_checkIndex_8e157 3 (some .int) (Cond.code yJ3_checkIndex_8e157 cJ3_checkIndex_8e157 3 (some .int) :: BIG) (rmm fr lo) 0 0 3 ∧ (Cond.static yJ3_checkIndex_8e157).before args s = true := va_cwS 3 hB (goodS bg_17_8 bg_17_9 bg_17_10 bg_17_11) rfl rfl rfl (by decide +kernel) hR
theorem cw_J0_1062 {R : Room} {s : State} {args : Array Value} {fr lo : Nat} (hB : ∀ w ∈ BIG, w.before args s = true) (hR : fr + 1 ≤ R.frames ∧ 8 + (4 + 11) + lo ≤ R.locals) : CallB R s args RJ0 1062 yJ3_checkFromToIndex_8c36e cJ3_checkFromToIndex_8c36e 4 (some .int) (Cond.code yJ3_checkFromToIndex_8c36e cJ3_checkFromToIndex_8c36e 4 (some .int) :: BIG) (rmm fr lo) 0 0 4 ∧ (Cond.static yJ3_checkFromToIndex_8c36e).before args s = true := va_cwS 4 hB (goodS bg_23_22 bg_23_23 bg_17_10 bg_24_0) rfl rfl rfl (by decide +kernel) hR
theorem cw_J1_9 {R : Room} {s : State} {args : Array Value} {fr lo : Nat} (hB : ∀ w ∈ BIG, w.before args s = true) (hR : fr + 1 ≤ R.frames ∧ 8 + (2 + 11) + lo ≤ R.locals) : CallB R s args RJ1 9 yJ0_checkIndex_df160 cJ0_checkIndex_df160 2 none (Cond.code yJ0_checkIndex_df160 cJ0_checkIndex_df160 2 none :: BIG) (rmm fr lo) 0 0 2 ∧ (Cond.static yJ0_checkIndex_df160).before args s = true := va_cwS 2 hB (goodS bg_17_4 bg_17_5 bg_16_15 bg_17_6) rfl rfl rfl (by decide +kernel) hR
theorem cw_J1_88 {R : Room} {s : State} {args : Array Value} {fr lo : Nat} (hB : ∀ w ∈ BIG, w.before args s = true) (hR : fr + 1 ≤ R.frames ∧ 8 + (1 + 11) + lo ≤ R.locals) : CallB R s args RJ1 88 yJ1_canEncode_9a6ad cJ1_canEncode_9a6ad 1 (some .boolean) (Cond.code yJ1_canEncode_9a6ad cJ1_canEncode_9a6ad 1 (some .boolean) :: BIG) (rmm fr lo) 0 0 1 ∧ (Cond.static yJ1_canEncode_9a6ad).before args s = true := va_cwS 1 hB (goodS bg_23_1 bg_23_2 bg_17_2 bg_23_3) rfl rfl rfl (by decide +kernel) hR
theorem cw_J1_95 {R : Room} {s : State} {args : Array Value} {fr lo : Nat} (hB : ∀ w ∈ BIG, w.before args s = true) (hR : fr + 1 ≤ R.frames ∧ 8 + (6 + 11) + lo ≤ R.locals) : CallB R s args RJ1 95 yJ1_indexOfChar_4cfef cJ1_indexOfChar_4cfef 6 (some .int) (Cond.code yJ1_indexOfChar_4cfef cJ1_indexOfChar_4cfef 6 (some .int) :: BIG) (rmm fr lo) 0 0 4 ∧ (Cond.static yJ1_indexOfChar_4cfef).before args s = true := va_cwS 4 hB (goodS bg_23_4 bg_23_5 bg_17_2 bg_23_6) rfl rfl rfl (by decide +kernel) hR
theorem cw_J2_48 {R : Room} {s : State} {args : Array Value} {fr lo : Nat} (hB : ∀ w ∈ BIG, w.before args s = true) (hR : fr + 1 ≤ R.frames ∧ 8 + (1 + 11) + lo ≤ R.locals) : CallB R s args RJ2 48 yJ2_length_9d52b cJ2_length_9d52b 1 (some .int) (Cond.code yJ2_length_9d52b cJ2_length_9d52b 1 (some .int) :: BIG) (rmm fr lo) 0 0 1 ∧ (Cond.static yJ2_length_9d52b).before args s = true := va_cwS 1 hB (goodS bg_17_19 bg_17_20 bg_17_14 bg_17_21) rfl rfl rfl (by decide +kernel) hR
theorem cw_J2_67 {R : Room} {s : State} {args : Array Value} {fr lo : Nat} (hB : ∀ w ∈ BIG, w.before args s = true) (hR : fr + 1 ≤ R.frames ∧ 8 + (2 + 11) + lo ≤ R.locals) : CallB R s args RJ2 67 yJ2_checkIndex_2214a cJ2_checkIndex_2214a 2 none (Cond.code yJ2_checkIndex_2214a cJ2_checkIndex_2214a 2 none :: BIG) (rmm fr lo) 0 0 2 ∧ (Cond.static yJ2_checkIndex_2214a).before args s = true := va_cwS 2 hB (goodS bg_17_16 bg_17_17 bg_17_14 bg_17_18) rfl rfl rfl (by decide +kernel) hR
theorem cw_J2_71 {R : Room} {s : State} {args : Array Value} {fr lo : Nat} (hB : ∀ w ∈ BIG, w.before args s = true) (hR : fr + 1 ≤ R.frames ∧ 8 + (2 + 11) + lo ≤ R.locals) : CallB R s args RJ2 71 yJ2_getChar_3b067 cJ2_getChar_3b067 2 (some .char) (Cond.code yJ2_getChar_3b067 cJ2_getChar_3b067 2 (some .char) :: BIG) (rmm fr lo) 0 0 2 ∧ (Cond.static yJ2_getChar_3b067).before args s = true := va_cwS 2 hB (goodS bg_17_23 bg_18_0 bg_17_14 bg_18_1) rfl rfl rfl (by decide +kernel) hR
theorem cw_J2_96 {R : Room} {s : State} {args : Array Value} {fr lo : Nat} (hB : ∀ w ∈ BIG, w.before args s = true) (hR : fr + 1 ≤ R.frames ∧ 8 + (3 + 11) + lo ≤ R.locals) : CallB R s args RJ2 96 yJ2_checkBoundsBeginEnd_d044e cJ2_checkBoundsBeginEnd_d044e 3 none (Cond.code yJ2_checkBoundsBeginEnd_d044e cJ2_checkBoundsBeginEnd_d044e 3 none :: BIG) (rmm fr lo) 0 0 3 ∧ (Cond.static yJ2_checkBoundsBeginEnd_d044e).before args s = true := va_cwS 3 hB (goodS bg_23_16 bg_23_17 bg_17_14 bg_23_18) rfl rfl rfl (by decide +kernel) hR
theorem cw_J2_157 {R : Room} {s : State} {args : Array Value} {fr lo : Nat} (hB : ∀ w ∈ BIG, w.before args s = true) (hR : fr + 1 ≤ R.frames ∧ 8 + (1 + 11) + lo ≤ R.locals) : CallB R s args RJ2 157 yJ11_highSurrogate_5068e cJ11_highSurrogate_5068e 1 (some .char) (Cond.code yJ11_highSurrogate_5068e cJ11_highSurrogate_5068e 1 (some .char) :: BIG) (rmm fr lo) 0 0 1 ∧ (Cond.static yJ11_highSurrogate_5068e).before args s = true := va_cwS 1 hB (goodS bg_24_11 bg_24_12 bg_24_9 bg_24_13) rfl rfl rfl (by decide +kernel) hR
theorem cw_J2_161 {R : Room} {s : State} {args : Array Value} {fr lo : Nat} (hB : ∀ w ∈ BIG, w.before args s = true) (hR : fr + 1 ≤ R.frames ∧ 8 + (1 + 11) + lo ≤ R.locals) : CallB R s args RJ2 161 yJ11_lowSurrogate_5068e cJ11_lowSurrogate_5068e 1 (some .char) (Cond.code yJ11_lowSurrogate_5068e cJ11_lowSurrogate_5068e 1 (some .char) :: BIG) (rmm fr lo) 0 0 1 ∧ (Cond.static yJ11_lowSurrogate_5068e).before args s = true := va_cwS 1 hB (goodS bg_24_15 bg_24_16 bg_24_9 bg_24_17) rfl rfl rfl (by decide +kernel) hR
theorem cw_J2_164 {R : Room} {s : State} {args : Array Value} {fr lo : Nat} (hB : ∀ w ∈ BIG, w.before args s = true) (hR : fr + 1 ≤ R.frames ∧ 8 + (2 + 11) + lo ≤ R.locals) : CallB R s args RJ2 164 yJ11_isValidCodePoint_9a6ad cJ11_isValidCodePoint_9a6ad 2 (some .boolean) (Cond.code yJ11_isValidCodePoint_9a6ad cJ11_isValidCodePoint_9a6ad 2 (some .boolean) :: BIG) (rmm fr lo) 0 0 1 ∧ (Cond.static yJ11_isValidCodePoint_9a6ad).before args s = true := va_cwS 1 hB (goodS bg_24_7 bg_24_8 bg_24_9 bg_24_10) rfl rfl rfl (by decide +kernel) hR
theorem cw_J2_228 {R : Room} {s : State} {args : Array Value} {fr lo : Nat} (hB : ∀ w ∈ BIG, w.before args s = true) (hR : fr + 1 ≤ R.frames ∧ 8 + (4 + 11) + lo ≤ R.locals) : CallB R s args RJ2 228 yJ2_indexOfChar_4cfef cJ2_indexOfChar_4cfef 4 (some .int) (Cond.code yJ2_indexOfChar_4cfef cJ2_indexOfChar_4cfef 4 (some .int) :: BIG) (rmm fr lo) 0 0 4 ∧ (Cond.static yJ2_indexOfChar_4cfef).before args s = true := va_cwS 4 hB (goodS bg_23_13 bg_23_14 bg_17_14 bg_23_15) rfl rfl rfl (by decide +kernel) hR
theorem cw_J2_232 {R : Room} {s : State} {args : Array Value} {fr lo : Nat} (hB : ∀ w ∈ BIG, w.before args s = true) (hR : fr + 1 ≤ R.frames ∧ 8 + (7 + 11) + lo ≤ R.locals) : CallB R s args RJ2 232 yJ2_indexOfSupplementary_4cfef cJ2_indexOfSupplementary_4cfef 7 (some .int) (Cond.code yJ2_indexOfSupplementary_4cfef cJ2_indexOfSupplementary_4cfef 7 (some .int) :: BIG) (rmm fr lo) 0 0 4 ∧ (Cond.static yJ2_indexOfSupplementary_4cfef).before args s = true := va_cwS 4 hB (goodS bg_24_4 bg_24_5 bg_17_14 bg_24_6) rfl rfl rfl (by decide +kernel) hR
theorem cw_J2_241 {R : Room} {s : State} {args : Array Value} {fr lo : Nat} (hB : ∀ w ∈ BIG, w.before args s = true) (hR : fr + 1 ≤ R.frames ∧ 8 + (3 + 11) + lo ≤ R.locals) : CallB R s args RJ2 241 yJ0_checkBoundsBeginEnd_23922 cJ0_checkBoundsBeginEnd_23922 3 none (Cond.code yJ0_checkBoundsBeginEnd_23922 cJ0_checkBoundsBeginEnd_23922 3 none :: BIG) (rmm fr lo) 0 0 3 ∧ (Cond.static yJ0_checkBoundsBeginEnd_23922).before args s = true := va_cwS 3 hB (goodS bg_23_19 bg_23_20 bg_16_15 bg_23_21) rfl rfl rfl (by decide +kernel) hR
theorem cw_J2_244 {R : Room} {s : State} {args : Array Value} {fr lo : Nat} (hB : ∀ w ∈ BIG, w.before args s = true) (hR : fr + 1 ≤ R.frames ∧ 8 + (5 + 11) + lo ≤ R.locals) : CallB R s args RJ2 244 yJ2_indexOfCharUnsafe_4cfef cJ2_indexOfCharUnsafe_4cfef 5 (some .int) (Cond.code yJ2_indexOfCharUnsafe_4cfef cJ2_indexOfCharUnsafe_4cfef 5 (some .int) :: BIG) (rmm fr lo) 0 0 4 ∧ (Cond.static yJ2_indexOfCharUnsafe_4cfef).before args s = true := va_cwS 4 hB (goodS bg_24_1 bg_24_2 bg_17_14 bg_24_3) rfl rfl rfl (by decide +kernel) hR
theorem cw_J2_414 {R : Room} {s : State} {args : Array Value} {fr lo : Nat} (hB : ∀ w ∈ BIG, w.before args s = true) (hR : fr + 1 ≤ R.frames ∧ 8 + (2 + 11) + lo ≤ R.locals) : CallB R s args RJ2 414 yJ0_checkIndex_df160 cJ0_checkIndex_df160 2 none (Cond.code yJ0_checkIndex_df160 cJ0_checkIndex_df160 2 none :: BIG) (rmm fr lo) 0 0 2 ∧ (Cond.static yJ0_checkIndex_df160).before args s = true := va_cwS 2 hB (goodS bg_17_22 bg_17_5 bg_16_15 bg_17_6) rfl rfl rfl (by decide +kernel) hR
theorem cw_X0_19 {R : Room} {s : State} {args : Array Value} {fr lo : Nat} (hB : ∀ w ∈ BIG, w.before args s = true) (hR : fr + 1 ≤ R.frames ∧ 8 + (2 + 11) + lo ≤ R.locals) : CallW R s args RX0 RJ0 19 yJ0_charAt_5068e cJ0_charAt_5068e 2 (some .char) (Cond.code yJ0_charAt_5068e cJ0_charAt_5068e 2 (some .char) :: BIG) (rmm fr lo) 0 0 1 := cwV 1 hB (goodV bg_16_12 bg_16_13 bg_16_14 bg_16_15 bg_16_16) rfl rfl rfl (by decide +kernel) hR
theorem cw_X0_25 {R : Room} {s : State} {args : Array Value} {fr lo : Nat} (hB : ∀ w ∈ BIG, w.before args s = true) (hR : fr + 1 ≤ R.frames ∧ 8 + (2 + 11) + lo ≤ R.locals) : CallW R s args RX0 RX5 25 yX5_addSign cX5_addSign 2 none (Cond.code yX5_addSign cX5_addSign 2 none :: BIG) (rmm fr lo) 0 0 1 := cwV 1 hB (goodV bg_18_5 bg_18_6 bg_18_7 bg_2_0 bg_18_8) rfl rfl rfl (by decide +kernel) hR
theorem cw_X0_29 {R : Room} {s : State} {args : Array Value} {fr lo : Nat} (hB : ∀ w ∈ BIG, w.before args s = true) (hR : fr + 1 ≤ R.frames ∧ 8 + (2 + 11) + lo ≤ R.locals) : CallB R s args RX0 29 yX0_isCookieForm cX0_isCookieForm 2 (some .boolean) (Cond.code yX0_isCookieForm cX0_isCookieForm 2 (some .boolean) :: BIG) (rmm fr lo) 0 0 1 ∧ (Cond.static yX0_isCookieForm).before args s = true := va_cwS 1 hB (goodS bg_21_17 bg_21_18 bg_16_10 bg_21_19) rfl rfl rfl (by decide +kernel) hR
theorem cw_X0_37 {R : Room} {s : State} {args : Array Value} {fr lo : Nat} (hB : ∀ w ∈ BIG, w.before args s = true) (hR : fr + 1 ≤ R.frames ∧ 8 + (1 + 11) + lo ≤ R.locals) : CallB R s args RX0 37 yX0_sixBits cX0_sixBits 1 (some .int) (Cond.code yX0_sixBits cX0_sixBits 1 (some .int) :: BIG) (rmm fr lo) 0 0 1 ∧ (Cond.static yX0_sixBits).before args s = true := va_cwS 1 hB (goodS bg_21_20 bg_21_21 bg_16_10 bg_21_22) rfl rfl rfl (by decide +kernel) hR
theorem cw_X0_41 {R : Room} {s : State} {args : Array Value} {fr lo : Nat} (hB : ∀ w ∈ BIG, w.before args s = true) (hR : fr + 1 ≤ R.frames ∧ 8 + (2 + 11) + lo ≤ R.locals) : CallW R s args RX0 RJ0 41 yJ0_indexOf_0f7a4 cJ0_indexOf_0f7a4 2 (some .int) (Cond.code yJ0_indexOf_0f7a4 cJ0_indexOf_0f7a4 2 (some .int) :: BIG) (rmm fr lo) 0 0 1 := cwV 1 hB (goodV bg_21_23 bg_22_0 bg_22_1 bg_16_15 bg_22_2) rfl rfl rfl (by decide +kernel) hR
theorem cw_X1_21 {g : GG} {A : Nat → Prop} {H : Heap} {locs : List Loc} {ws : va_W} {p : Program} {m : MethodId} {c : Code} {cc : ByteArray} {nL : Nat} {R : Room} {s : State} {args : Array Value} {fr lo : Nat} (hw : Wd g s A H locs ws) (hB : ∀ w ∈ BIG, w.before args s = true) (hR : fr + 1 ≤ R.frames ∧ 8 + (2 + 11) + lo ≤ R.locals) : va_CN R s args RX1 21 yX7_byteOf "SessionGate" cX7_byteOf 2 (some .int) (Cond.code yX7_byteOf cX7_byteOf 2 (some .int) :: BIG) (rmm fr lo) 0 0 2 ∧ (Cond.static yX7_byteOf).before args s = true ∧ True := ⟨va_cnB 2 hB (goodC bg_12_8) rfl rfl rfl (hw.2.2.2.2.1.1 _ (List.mem_of_getElem? (i := 18) rfl)) (hB _ bg_1_2) (by decide +kernel) hR, hB _ bg_12_7, trivial⟩
theorem cw_X2_30 {R : Room} {s : State} {args : Array Value} {fr lo : Nat} (hB : ∀ w ∈ BIG, w.before args s = true) (hR : fr + 1 ≤ R.frames ∧ 8 + (6 + 11) + lo ≤ R.locals) : CallW R s args RX2 RX2 30 yX2_isLive cX2_isLive 6 (some .boolean) (Cond.code yX2_isLive cX2_isLive 6 (some .boolean) :: BIG) (rmm fr lo) 0 0 3 := cwV 3 hB (goodV bg_24_23 bg_25_0 bg_25_1 bg_1_20 bg_25_2) rfl rfl rfl (by decide +kernel) hR
theorem cw_X3_22 {R : Room} {s : State} {args : Array Value} {fr lo : Nat} (hB : ∀ w ∈ BIG, w.before args s = true) (hR : fr + 1 ≤ R.frames ∧ 8 + (6 + 11) + lo ≤ R.locals) : CallW R s args RX3 RX3 22 yX3_fillBlocks cX3_fillBlocks 6 none (Cond.code yX3_fillBlocks cX3_fillBlocks 6 none :: BIG) (rmm fr lo) 0 0 4 := cwV 4 hB (goodV bg_14_19 bg_14_20 bg_14_21 bg_1_16 bg_14_22) rfl rfl rfl (by decide +kernel) hR
theorem cw_X3_26 {R : Room} {s : State} {args : Array Value} {fr lo : Nat} (hB : ∀ w ∈ BIG, w.before args s = true) (hR : fr + 1 ≤ R.frames ∧ 8 + (2 + 11) + lo ≤ R.locals) : CallW R s args RX3 RX3 26 yX3_hashBlocks cX3_hashBlocks 2 none (Cond.code yX3_hashBlocks cX3_hashBlocks 2 none :: BIG) (rmm fr lo) 0 0 0 := cwV 0 hB (goodV bg_14_23 bg_15_0 bg_15_1 bg_1_16 bg_15_2) rfl rfl rfl (by decide +kernel) hR
theorem cw_X3_38 {R : Room} {s : State} {args : Array Value} {fr lo : Nat} (hB : ∀ w ∈ BIG, w.before args s = true) (hR : fr + 1 ≤ R.frames ∧ 8 + (7 + 11) + lo ≤ R.locals) : CallW R s args RX3 RX3 38 yX3_fillSchedule cX3_fillSchedule 7 none (Cond.code yX3_fillSchedule cX3_fillSchedule 7 none :: BIG) (rmm fr lo) 0 0 1 := cwV 1 hB (goodV bg_15_8 bg_15_9 bg_15_10 bg_1_16 bg_15_11) rfl rfl rfl (by decide +kernel) hR
theorem cw_X3_42 {R : Room} {s : State} {args : Array Value} {fr lo : Nat} (hB : ∀ w ∈ BIG, w.before args s = true) (hR : fr + 1 ≤ R.frames ∧ 8 + (14 + 11) + lo ≤ R.locals) : CallW R s args RX3 RX3 42 yX3_mixSchedule cX3_mixSchedule 14 none (Cond.code yX3_mixSchedule cX3_mixSchedule 14 none :: BIG) (rmm fr lo) 0 0 0 := cwV 0 hB (goodV bg_15_15 bg_15_16 bg_15_17 bg_1_16 bg_15_18) rfl rfl rfl (by decide +kernel) hR
theorem cw_X3_45 {g : GG} {A : Nat → Prop} {H : Heap} {locs : List Loc} {ws : va_W} {p : Program} {m : MethodId} {c : Code} {cc : ByteArray} {nL : Nat} {R : Room} {s : State} {args : Array Value} {fr lo : Nat} (hw : Wd g s A H locs ws) (hB : ∀ w ∈ BIG, w.before args s = true) (hR : fr + 1 ≤ R.frames ∧ 8 + (2 + 11) + lo ≤ R.locals) : va_CN R s args RX3 45 yX7_byteOf "SessionGate" cX7_byteOf 2 (some .int) (Cond.code yX7_byteOf cX7_byteOf 2 (some .int) :: BIG) (rmm fr lo) 0 0 2 ∧ (Cond.static yX7_byteOf).before args s = true ∧ True := ⟨va_cnB 2 hB (goodC bg_12_8) rfl rfl rfl (hw.2.2.2.2.1.1 _ (List.mem_of_getElem? (i := 20) rfl)) (hB _ bg_1_2) (by decide +kernel) hR, hB _ bg_12_7, trivial⟩
theorem cw_X3_51 {R : Room} {s : State} {args : Array Value} {fr lo : Nat} (hB : ∀ w ∈ BIG, w.before args s = true) (hR : fr + 1 ≤ R.frames ∧ 8 + (2 + 11) + lo ≤ R.locals) : CallB R s args RX3 51 yX3_turn cX3_turn 2 (some .int) (Cond.code yX3_turn cX3_turn 2 (some .int) :: BIG) (rmm fr lo) 0 0 2 ∧ (Cond.static yX3_turn).before args s = true := va_cwS 2 hB (goodS bg_15_12 bg_15_13 bg_1_16 bg_15_14) rfl rfl rfl (by decide +kernel) hR
theorem cw_X5_19 {g : GG} {A : Nat → Prop} {H : Heap} {locs : List Loc} {ws : va_W} {p : Program} {m : MethodId} {c : Code} {cc : ByteArray} {nL : Nat} {R : Room} {s : State} {args : Array Value} {fr lo : Nat} (hw : Wd g s A H locs ws) (hB : ∀ w ∈ BIG, w.before args s = true) (hR : fr + 1 ≤ R.frames ∧ 8 + (2 + 11) + lo ≤ R.locals) : va_CN R s args RX5 19 yX7_byteOf "SessionGate" cX7_byteOf 2 (some .int) (Cond.code yX7_byteOf cX7_byteOf 2 (some .int) :: BIG) (rmm fr lo) 0 0 2 ∧ (Cond.static yX7_byteOf).before args s = true ∧ True := ⟨va_cnB 2 hB (goodC bg_12_8) rfl rfl rfl (hw.2.2.2.2.1.1 _ (List.mem_of_getElem? (i := 21) rfl)) (hB _ bg_1_2) (by decide +kernel) hR, hB _ bg_12_7, trivial⟩
theorem cw_X5_23 {R : Room} {s : State} {args : Array Value} {fr lo : Nat} (hB : ∀ w ∈ BIG, w.before args s = true) (hR : fr + 1 ≤ R.frames ∧ 8 + (2 + 11) + lo ≤ R.locals) : CallW R s args RX5 RX5 23 yX5_addSign cX5_addSign 2 none (Cond.code yX5_addSign cX5_addSign 2 none :: BIG) (rmm fr lo) 0 0 1 := cwV 1 hB (goodV bg_28_14 bg_18_6 bg_18_7 bg_2_0 bg_18_8) rfl rfl rfl (by decide +kernel) hR
theorem cw_X7_91 {R : Room} {s : State} {args : Array Value} {fr lo : Nat} (hB : ∀ w ∈ BIG, w.before args s = true) (hR : fr + 1 ≤ R.frames ∧ 8 + (5 + 11) + lo ≤ R.locals) : CallB R s args RX7 91 yX7_writeLong cX7_writeLong 5 none (Cond.code yX7_writeLong cX7_writeLong 5 none :: BIG) (rmm fr lo) 0 0 3 ∧ (Cond.static yX7_writeLong).before args s = true := va_cwS 3 hB (goodS bg_9_8 bg_9_9 bg_1_2 bg_9_10) rfl rfl rfl (by decide +kernel) hR
theorem cw_X7_100 {R : Room} {s : State} {args : Array Value} {fr lo : Nat} (hB : ∀ w ∈ BIG, w.before args s = true) (hR : fr + 1 ≤ R.frames ∧ 8 + (2 + 11) + lo ≤ R.locals) : CallB R s args RX7 100 yX7_isLimit cX7_isLimit 2 (some .boolean) (Cond.code yX7_isLimit cX7_isLimit 2 (some .boolean) :: BIG) (rmm fr lo) 0 0 1 ∧ (Cond.static yX7_isLimit).before args s = true := va_cwS 1 hB (goodS bg_11_6 bg_11_7 bg_1_2 bg_11_8) rfl rfl rfl (by decide +kernel) hR
theorem cw_X7_104 {R : Room} {s : State} {args : Array Value} {fr lo : Nat} (hB : ∀ w ∈ BIG, w.before args s = true) (hR : fr + 1 ≤ R.frames ∧ 8 + (4 + 11) + lo ≤ R.locals) : CallW R s args RX7 RX2 104 yX2_advance cX2_advance 4 none (Cond.code yX2_advance cX2_advance 4 none :: BIG) (rmm fr lo) 0 0 1 := cwV 1 hB (goodV bg_11_19 bg_11_20 bg_11_21 bg_1_20 bg_11_22) rfl rfl rfl (by decide +kernel) hR
theorem cw_X7_108 {R : Room} {s : State} {args : Array Value} {fr lo : Nat} (hB : ∀ w ∈ BIG, w.before args s = true) (hR : fr + 1 ≤ R.frames ∧ 8 + (1 + 11) + lo ≤ R.locals) : CallW R s args RX7 RX2 108 yX2_newest cX2_newest 1 (some (.object "SessionGate$Key")) (Cond.code yX2_newest cX2_newest 1 (some (.object "SessionGate$Key")) :: BIG) (rmm fr lo) 0 0 0 := cwV 0 hB (goodV bg_11_23 bg_12_0 bg_12_1 bg_1_20 bg_12_2) rfl rfl rfl (by decide +kernel) hR
theorem cw_X7_112 {R : Room} {s : State} {args : Array Value} {fr lo : Nat} (hB : ∀ w ∈ BIG, w.before args s = true) (hR : fr + 1 ≤ R.frames ∧ 8 + (6 + 11) + lo ≤ R.locals) : CallW R s args RX7 RX1 112 yX1_fill cX1_fill 6 none (Cond.code yX1_fill cX1_fill 6 none :: BIG) (rmm fr lo) 0 0 4 := cwV 4 hB (goodV bg_12_3 bg_12_4 bg_12_5 bg_3_18 bg_12_6) rfl rfl rfl (by decide +kernel) hR
theorem cw_X7_121 {R : Room} {s : State} {args : Array Value} {fr lo : Nat} (hB : ∀ w ∈ BIG, w.before args s = true) (hR : fr + 1 ≤ R.frames ∧ 8 + (1 + 11) + lo ≤ R.locals) : CallB R s args RX7 121 yX7_isUser cX7_isUser 1 (some .boolean) (Cond.code yX7_isUser cX7_isUser 1 (some .boolean) :: BIG) (rmm fr lo) 0 0 1 ∧ (Cond.static yX7_isUser).before args s = true := va_cwS 1 hB (goodS bg_12_20 bg_12_21 bg_1_2 bg_12_22) rfl rfl rfl (by decide +kernel) hR
theorem cw_X7_125 {R : Room} {s : State} {args : Array Value} {fr lo : Nat} (hB : ∀ w ∈ BIG, w.before args s = true) (hR : fr + 1 ≤ R.frames ∧ 8 + (3 + 11) + lo ≤ R.locals) : CallW R s args RX7 RX6 125 yX6_tell cX6_tell 3 none (Cond.code yX6_tell cX6_tell 3 none :: BIG) (rmm fr lo) 0 0 2 := cwV 2 hB (goodV bg_12_23 bg_13_0 bg_13_1 bg_2_23 bg_13_2) rfl rfl rfl (by decide +kernel) hR
theorem cw_X7_129 {R : Room} {s : State} {args : Array Value} {fr lo : Nat} (hB : ∀ w ∈ BIG, w.before args s = true) (hR : fr + 1 ≤ R.frames ∧ 8 + (3 + 11) + lo ≤ R.locals) : CallW R s args RX7 RX6 129 yX6_knows cX6_knows 3 (some .boolean) (Cond.code yX6_knows cX6_knows 3 (some .boolean) :: BIG) (rmm fr lo) 0 0 2 := cwV 2 hB (goodV bg_13_15 bg_13_16 bg_13_17 bg_2_23 bg_13_18) rfl rfl rfl (by decide +kernel) hR
theorem cw_X7_133 {R : Room} {s : State} {args : Array Value} {fr lo : Nat} (hB : ∀ w ∈ BIG, w.before args s = true) (hR : fr + 1 ≤ R.frames ∧ 8 + (2 + 11) + lo ≤ R.locals) : CallW R s args RX7 RX7 133 yX7_endStaleSessions cX7_endStaleSessions 2 none (Cond.code yX7_endStaleSessions cX7_endStaleSessions 2 none :: BIG) (rmm fr lo) 0 0 0 := cwV 0 hB (goodV bg_13_19 bg_13_20 bg_13_21 bg_1_2 bg_13_22) rfl rfl rfl (by decide +kernel) hR
theorem cw_X7_136 {R : Room} {s : State} {args : Array Value} {fr lo : Nat} (hB : ∀ w ∈ BIG, w.before args s = true) (hR : fr + 1 ≤ R.frames ∧ 8 + (2 + 11) + lo ≤ R.locals) : CallW R s args RX7 RX7 136 yX7_freeNumber cX7_freeNumber 2 (some .int) (Cond.code yX7_freeNumber cX7_freeNumber 2 (some .int) :: BIG) (rmm fr lo) 0 0 0 := cwV 0 hB (goodV bg_14_7 bg_14_8 bg_14_9 bg_1_2 bg_14_10) rfl rfl rfl (by decide +kernel) hR
theorem cw_X7_140 {R : Room} {s : State} {args : Array Value} {fr lo : Nat} (hB : ∀ w ∈ BIG, w.before args s = true) (hR : fr + 1 ≤ R.frames ∧ 8 + (1 + 11) + lo ≤ R.locals) : CallW R s args RX7 RX7 140 yX7_nextId cX7_nextId 1 (some .long) (Cond.code yX7_nextId cX7_nextId 1 (some .long) :: BIG) (rmm fr lo) 0 0 0 := cwV 0 hB (goodV bg_14_11 bg_14_12 bg_14_13 bg_1_2 bg_14_14) rfl rfl rfl (by decide +kernel) hR
theorem cw_X7_144 {R : Room} {s : State} {args : Array Value} {fr lo : Nat} (hB : ∀ w ∈ BIG, w.before args s = true) (hR : fr + 1 ≤ R.frames ∧ 8 + (6 + 11) + lo ≤ R.locals) : CallW R s args RX7 RX4 144 yX4_begin cX4_begin 6 none (Cond.code yX4_begin cX4_begin 6 none :: BIG) (rmm fr lo) 0 0 3 := cwV 3 hB (goodV bg_15_23 bg_16_0 bg_16_1 bg_3_1 bg_16_2) rfl rfl rfl (by decide +kernel) hR
theorem cw_X7_148 {R : Room} {s : State} {args : Array Value} {fr lo : Nat} (hB : ∀ w ∈ BIG, w.before args s = true) (hR : fr + 1 ≤ R.frames ∧ 8 + (3 + 11) + lo ≤ R.locals) : CallW R s args RX7 RX7 148 yX7_writeTexts cX7_writeTexts 3 none (Cond.code yX7_writeTexts cX7_writeTexts 3 none :: BIG) (rmm fr lo) 0 0 1 := cwV 1 hB (goodV bg_16_3 bg_16_4 bg_16_5 bg_1_2 bg_16_6) rfl rfl rfl (by decide +kernel) hR
theorem cw_X7_152 {R : Room} {s : State} {args : Array Value} {fr lo : Nat} (hB : ∀ w ∈ BIG, w.before args s = true) (hR : fr + 1 ≤ R.frames ∧ 8 + (4 + 11) + lo ≤ R.locals) : CallW R s args RX7 RX7 152 yX7_judge cX7_judge 4 (some .int) (Cond.code yX7_judge cX7_judge 4 (some .int) :: BIG) (rmm fr lo) 0 0 1 := cwV 1 hB (goodV bg_21_10 bg_21_11 bg_21_12 bg_1_2 bg_21_13) rfl rfl rfl (by decide +kernel) hR
theorem cw_X7_156 {R : Room} {s : State} {args : Array Value} {fr lo : Nat} (hB : ∀ w ∈ BIG, w.before args s = true) (hR : fr + 1 ≤ R.frames ∧ 8 + (2 + 11) + lo ≤ R.locals) : CallW R s args RX7 RX7 156 yX7_tally cX7_tally 2 none (Cond.code yX7_tally cX7_tally 2 none :: BIG) (rmm fr lo) 0 0 1 := cwV 1 hB (goodV bg_25_15 bg_25_16 bg_25_17 bg_1_2 bg_25_18) rfl rfl rfl (by decide +kernel) hR
theorem cw_X7_170 {R : Room} {s : State} {args : Array Value} {fr lo : Nat} (hB : ∀ w ∈ BIG, w.before args s = true) (hR : fr + 1 ≤ R.frames ∧ 8 + (1 + 11) + lo ≤ R.locals) : CallB R s args RX7 170 yX7_isText cX7_isText 1 (some .boolean) (Cond.code yX7_isText cX7_isText 1 (some .boolean) :: BIG) (rmm fr lo) 0 0 1 ∧ (Cond.static yX7_isText).before args s = true := va_cwS 1 hB (goodS bg_27_23 bg_28_0 bg_1_2 bg_28_1) rfl rfl rfl (by decide +kernel) hR
theorem cw_X7_173 {R : Room} {s : State} {args : Array Value} {fr lo : Nat} (hB : ∀ w ∈ BIG, w.before args s = true) (hR : fr + 1 ≤ R.frames ∧ 8 + (2 + 11) + lo ≤ R.locals) : CallW R s args RX7 RX7 173 yX7_textOf cX7_textOf 2 (some (.object "SessionGate$Text")) (Cond.code yX7_textOf cX7_textOf 2 (some (.object "SessionGate$Text")) :: BIG) (rmm fr lo) 0 0 1 := cwV 1 hB (goodV bg_28_2 bg_28_3 bg_28_4 bg_1_2 bg_28_5) rfl rfl rfl (by decide +kernel) hR
theorem cw_X7_177 {R : Room} {s : State} {args : Array Value} {fr lo : Nat} (hB : ∀ w ∈ BIG, w.before args s = true) (hR : fr + 1 ≤ R.frames ∧ 8 + (3 + 11) + lo ≤ R.locals) : CallB R s args RX7 177 yX7_signsIn cX7_signsIn 3 (some .int) (Cond.code yX7_signsIn cX7_signsIn 3 (some .int) :: BIG) (rmm fr lo) 0 0 1 ∧ (Cond.static yX7_signsIn).before args s = true := va_cwS 1 hB (goodS bg_28_6 bg_28_7 bg_1_2 bg_28_8) rfl rfl rfl (by decide +kernel) hR
theorem cw_X7_187 {R : Room} {s : State} {args : Array Value} {fr lo : Nat} (hB : ∀ w ∈ BIG, w.before args s = true) (hR : fr + 1 ≤ R.frames ∧ 8 + (4 + 11) + lo ≤ R.locals) : CallW R s args RX7 RX5 187 yX5_addSigns cX5_addSigns 4 none (Cond.code yX5_addSigns cX5_addSigns 4 none :: BIG) (rmm fr lo) 0 0 1 := cwV 1 hB (goodV bg_28_10 bg_28_11 bg_28_12 bg_2_0 bg_28_13) rfl rfl rfl (by decide +kernel) hR
theorem cw_X7_190 {R : Room} {s : State} {args : Array Value} {fr lo : Nat} (hB : ∀ w ∈ BIG, w.before args s = true) (hR : fr + 1 ≤ R.frames ∧ 8 + (2 + 11) + lo ≤ R.locals) : CallW R s args RX7 RX5 190 yX5_has cX5_has 2 (some .boolean) (Cond.code yX5_has cX5_has 2 (some .boolean) :: BIG) (rmm fr lo) 0 0 1 := cwV 1 hB (goodV bg_29_23 bg_30_0 bg_30_1 bg_2_0 bg_30_2) rfl rfl rfl (by decide +kernel) hR
theorem cw_X7_207 {R : Room} {s : State} {args : Array Value} {fr lo : Nat} (hB : ∀ w ∈ BIG, w.before args s = true) (hR : fr + 1 ≤ R.frames ∧ 8 + (3 + 11) + lo ≤ R.locals) : CallW R s args RX7 RX7 207 yX7_openSessions cX7_openSessions 3 (some .int) (Cond.code yX7_openSessions cX7_openSessions 3 (some .int) :: BIG) (rmm fr lo) 0 0 0 := cwV 0 hB (goodV bg_31_15 bg_31_16 bg_31_17 bg_1_2 bg_31_18) rfl rfl rfl (by decide +kernel) hR
theorem cw_X7_210 {R : Room} {s : State} {args : Array Value} {fr lo : Nat} (hB : ∀ w ∈ BIG, w.before args s = true) (hR : fr + 1 ≤ R.frames ∧ 8 + (7 + 11) + lo ≤ R.locals) : CallW R s args RX7 RX2 210 yX2_liveOnes cX2_liveOnes 7 (some .int) (Cond.code yX2_liveOnes cX2_liveOnes 7 (some .int) :: BIG) (rmm fr lo) 0 0 2 := cwV 2 hB (goodV bg_31_19 bg_31_20 bg_31_21 bg_1_20 bg_31_22) rfl rfl rfl (by decide +kernel) hR
theorem cw_X7_217 {R : Room} {s : State} {args : Array Value} {fr lo : Nat} (hB : ∀ w ∈ BIG, w.before args s = true) (hR : fr + 1 ≤ R.frames ∧ 8 + (4 + 11) + lo ≤ R.locals) : CallW R s args RX7 RX3 217 yX3_compute cX3_compute 4 none (Cond.code yX3_compute cX3_compute 4 none :: BIG) (rmm fr lo) 0 0 3 := cwV 3 hB (goodV bg_14_15 bg_14_16 bg_14_17 bg_1_16 bg_14_18) rfl rfl rfl (by decide +kernel) hR
theorem cw_X7_224 {R : Room} {s : State} {args : Array Value} {fr lo : Nat} (hB : ∀ w ∈ BIG, w.before args s = true) (hR : fr + 1 ≤ R.frames ∧ 8 + (2 + 11) + lo ≤ R.locals) : CallW R s args RX7 RX7 224 yX7_isOld cX7_isOld 2 (some .boolean) (Cond.code yX7_isOld cX7_isOld 2 (some .boolean) :: BIG) (rmm fr lo) 0 0 1 := cwV 1 hB (goodV bg_13_23 bg_14_0 bg_14_1 bg_1_2 bg_14_2) rfl rfl rfl (by decide +kernel) hR
theorem cw_X7_228 {R : Room} {s : State} {args : Array Value} {fr lo : Nat} (hB : ∀ w ∈ BIG, w.before args s = true) (hR : fr + 1 ≤ R.frames ∧ 8 + (2 + 11) + lo ≤ R.locals) : CallW R s args RX7 RX7 228 yX7_isIdle cX7_isIdle 2 (some .boolean) (Cond.code yX7_isIdle cX7_isIdle 2 (some .boolean) :: BIG) (rmm fr lo) 0 0 1 := cwV 1 hB (goodV bg_14_3 bg_14_4 bg_14_5 bg_1_2 bg_14_6) rfl rfl rfl (by decide +kernel) hR
theorem cw_X7_231 {R : Room} {s : State} {args : Array Value} {fr lo : Nat} (hB : ∀ w ∈ BIG, w.before args s = true) (hR : fr + 1 ≤ R.frames ∧ 8 + (5 + 11) + lo ≤ R.locals) : CallB R s args RX7 231 yX7_readLong cX7_readLong 5 (some .long) (Cond.code yX7_readLong cX7_readLong 5 (some .long) :: BIG) (rmm fr lo) 0 0 2 ∧ (Cond.static yX7_readLong).before args s = true := va_cwS 2 hB (goodS bg_15_20 bg_15_21 bg_1_2 bg_15_22) rfl rfl rfl (by decide +kernel) hR
theorem cw_X7_235 {R : Room} {s : State} {args : Array Value} {fr lo : Nat} (hB : ∀ w ∈ BIG, w.before args s = true) (hR : fr + 1 ≤ R.frames ∧ 8 + (6 + 11) + lo ≤ R.locals) : CallB R s args RX7 235 yX0_decodeCookie cX0_decodeCookie 6 (some .boolean) (Cond.code yX0_decodeCookie cX0_decodeCookie 6 (some .boolean) :: BIG) (rmm fr lo) 0 0 2 ∧ (Cond.static yX0_decodeCookie).before args s = true := va_cwS 2 hB (goodS bg_21_14 bg_21_15 bg_16_10 bg_21_16) rfl rfl rfl (by decide +kernel) hR
theorem cw_X7_241 {R : Room} {s : State} {args : Array Value} {fr lo : Nat} (hB : ∀ w ∈ BIG, w.before args s = true) (hR : fr + 1 ≤ R.frames ∧ 8 + (7 + 11) + lo ≤ R.locals) : CallW R s args RX7 RX2 241 yX2_liveKey cX2_liveKey 7 (some (.object "SessionGate$Key")) (Cond.code yX2_liveKey cX2_liveKey 7 (some (.object "SessionGate$Key")) :: BIG) (rmm fr lo) 0 0 3 := cwV 3 hB (goodV bg_24_19 bg_24_20 bg_24_21 bg_1_20 bg_24_22) rfl rfl rfl (by decide +kernel) hR
theorem cw_X7_245 {R : Room} {s : State} {args : Array Value} {fr lo : Nat} (hB : ∀ w ∈ BIG, w.before args s = true) (hR : fr + 1 ≤ R.frames ∧ 8 + (3 + 11) + lo ≤ R.locals) : CallW R s args RX7 RX7 245 yX7_isSealedBy cX7_isSealedBy 3 (some .boolean) (Cond.code yX7_isSealedBy cX7_isSealedBy 3 (some .boolean) :: BIG) (rmm fr lo) 0 0 1 := cwV 1 hB (goodV bg_25_3 bg_25_4 bg_25_5 bg_1_2 bg_25_6) rfl rfl rfl (by decide +kernel) hR
theorem cw_X7_249 {R : Room} {s : State} {args : Array Value} {fr lo : Nat} (hB : ∀ w ∈ BIG, w.before args s = true) (hR : fr + 1 ≤ R.frames ∧ 8 + (5 + 11) + lo ≤ R.locals) : CallW R s args RX7 RX7 249 yX7_numberOf cX7_numberOf 5 (some .int) (Cond.code yX7_numberOf cX7_numberOf 5 (some .int) :: BIG) (rmm fr lo) 0 0 2 := cwV 2 hB (goodV bg_25_7 bg_25_8 bg_25_9 bg_1_2 bg_25_10) rfl rfl rfl (by decide +kernel) hR
theorem cw_X7_253 {R : Room} {s : State} {args : Array Value} {fr lo : Nat} (hB : ∀ w ∈ BIG, w.before args s = true) (hR : fr + 1 ≤ R.frames ∧ 8 + (3 + 11) + lo ≤ R.locals) : CallW R s args RX7 RX7 253 yX7_writeToken cX7_writeToken 3 none (Cond.code yX7_writeToken cX7_writeToken 3 none :: BIG) (rmm fr lo) 0 0 2 := cwV 2 hB (goodV bg_18_9 bg_18_10 bg_18_11 bg_1_2 bg_18_12) rfl rfl rfl (by decide +kernel) hR
theorem cw_X7_257 {R : Room} {s : State} {args : Array Value} {fr lo : Nat} (hB : ∀ w ∈ BIG, w.before args s = true) (hR : fr + 1 ≤ R.frames ∧ 8 + (3 + 11) + lo ≤ R.locals) : CallW R s args RX7 RX5 257 yX5_isSameAs cX5_isSameAs 3 (some .boolean) (Cond.code yX5_isSameAs cX5_isSameAs 3 (some .boolean) :: BIG) (rmm fr lo) 0 0 1 := cwV 1 hB (goodV bg_25_11 bg_25_12 bg_25_13 bg_2_0 bg_25_14) rfl rfl rfl (by decide +kernel) hR
theorem cw_X7_267 {R : Room} {s : State} {args : Array Value} {fr lo : Nat} (hB : ∀ w ∈ BIG, w.before args s = true) (hR : fr + 1 ≤ R.frames ∧ 8 + (9 + 11) + lo ≤ R.locals) : CallB R s args RX7 267 yX0_encode cX0_encode 9 none (Cond.code yX0_encode cX0_encode 9 none :: BIG) (rmm fr lo) 0 0 3 ∧ (Cond.static yX0_encode).before args s = true := va_cwS 3 hB (goodS bg_16_8 bg_16_9 bg_16_10 bg_16_11) rfl rfl rfl (by decide +kernel) hR
theorem cw_X7_271 {R : Room} {s : State} {args : Array Value} {fr lo : Nat} (hB : ∀ w ∈ BIG, w.before args s = true) (hR : fr + 1 ≤ R.frames ∧ 8 + (2 + 11) + lo ≤ R.locals) : CallB R s args RX7 271 yX7_byteOf cX7_byteOf 2 (some .int) (Cond.code yX7_byteOf cX7_byteOf 2 (some .int) :: BIG) (rmm fr lo) 0 0 2 ∧ (Cond.static yX7_byteOf).before args s = true := va_cwS 2 hB (goodS bg_28_9 bg_12_7 bg_1_2 bg_12_8) rfl rfl rfl (by decide +kernel) hR
theorem cw_X8_169 {R : Room} {s : State} {args : Array Value} {fr lo : Nat} (hB : ∀ w ∈ BIG, w.before args s = true) (hR : fr + 1 ≤ R.frames ∧ 8 + (2 + 11) + lo ≤ R.locals) : CallB R s args RX8 169 yX8_turn cX8_turn 2 (some .int) (Cond.code yX8_turn cX8_turn 2 (some .int) :: BIG) (rmm fr lo) 0 0 2 ∧ (Cond.static yX8_turn).before args s = true := va_cwS 2 hB (goodS bg_20_0 bg_20_1 bg_1_5 bg_20_2) rfl rfl rfl (by decide +kernel) hR
theorem cw_X8_176 {R : Room} {s : State} {args : Array Value} {fr lo : Nat} (hB : ∀ w ∈ BIG, w.before args s = true) (hR : fr + 1 ≤ R.frames ∧ 8 + (13 + 11) + lo ≤ R.locals) : CallW R s args RX8 RX8 176 yX8_block cX8_block 13 none (Cond.code yX8_block cX8_block 13 none :: BIG) (rmm fr lo) 0 0 1 := cwV 1 hB (goodV bg_19_20 bg_19_21 bg_19_22 bg_1_5 bg_19_23) rfl rfl rfl (by decide +kernel) hR
theorem cw_X8_183 {R : Room} {s : State} {args : Array Value} {fr lo : Nat} (hB : ∀ w ∈ BIG, w.before args s = true) (hR : fr + 1 ≤ R.frames ∧ 8 + (4 + 11) + lo ≤ R.locals) : CallW R s args RX8 RX8 183 yX8_hashNow cX8_hashNow 4 none (Cond.code yX8_hashNow cX8_hashNow 4 none :: BIG) (rmm fr lo) 0 0 0 := cwV 0 hB (goodV bg_19_16 bg_19_17 bg_19_18 bg_1_5 bg_19_19) rfl rfl rfl (by decide +kernel) hR
theorem cw_X8_194 {R : Room} {s : State} {args : Array Value} {fr lo : Nat} (hB : ∀ w ∈ BIG, w.before args s = true) (hR : fr + 1 ≤ R.frames ∧ 8 + (2 + 11) + lo ≤ R.locals) : CallW R s args RX8 RX8 194 yX8_say cX8_say 2 none (Cond.code yX8_say cX8_say 2 none :: BIG) (rmm fr lo) 0 0 1 := cwV 1 hB (goodV bg_19_7 bg_19_8 bg_19_9 bg_1_5 bg_19_10) rfl rfl rfl (by decide +kernel) hR
theorem cw_X8_197 {R : Room} {s : State} {args : Array Value} {fr lo : Nat} (hB : ∀ w ∈ BIG, w.before args s = true) (hR : fr + 1 ≤ R.frames ∧ 8 + (2 + 11) + lo ≤ R.locals) : CallW R s args RX8 RX8 197 yX8_seal cX8_seal 2 none (Cond.code yX8_seal cX8_seal 2 none :: BIG) (rmm fr lo) 0 0 0 := cwV 0 hB (goodV bg_19_11 bg_19_12 bg_19_13 bg_1_5 bg_19_14) rfl rfl rfl (by decide +kernel) hR
theorem cw_X8_200 {R : Room} {s : State} {args : Array Value} {fr lo : Nat} (hB : ∀ w ∈ BIG, w.before args s = true) (hR : fr + 1 ≤ R.frames ∧ 8 + (1 + 11) + lo ≤ R.locals) : CallB R s args RX8 200 yX8_signOf cX8_signOf 1 (some .int) (Cond.code yX8_signOf cX8_signOf 1 (some .int) :: BIG) (rmm fr lo) 0 0 1 ∧ (Cond.static yX8_signOf).before args s = true := va_cwS 1 hB (goodS bg_20_23 bg_21_0 bg_1_5 bg_21_1) rfl rfl rfl (by decide +kernel) hR
theorem cw_X8_204 {R : Room} {s : State} {args : Array Value} {fr lo : Nat} (hB : ∀ w ∈ BIG, w.before args s = true) (hR : fr + 1 ≤ R.frames ∧ 8 + (3 + 11) + lo ≤ R.locals) : CallW R s args RX8 RX8 204 yX8_takeKey cX8_takeKey 3 none (Cond.code yX8_takeKey cX8_takeKey 3 none :: BIG) (rmm fr lo) 0 0 1 := cwV 1 hB (goodV bg_20_15 bg_20_16 bg_20_17 bg_1_5 bg_20_18) rfl rfl rfl (by decide +kernel) hR
theorem cw_X8_207 {R : Room} {s : State} {args : Array Value} {fr lo : Nat} (hB : ∀ w ∈ BIG, w.before args s = true) (hR : fr + 1 ≤ R.frames ∧ 8 + (4 + 11) + lo ≤ R.locals) : CallW R s args RX8 RX8 207 yX8_sealBody cX8_sealBody 4 none (Cond.code yX8_sealBody cX8_sealBody 4 none :: BIG) (rmm fr lo) 0 0 2 := cwV 2 hB (goodV bg_20_11 bg_20_12 bg_20_13 bg_1_5 bg_20_14) rfl rfl rfl (by decide +kernel) hR
theorem cw_X8_211 {R : Room} {s : State} {args : Array Value} {fr lo : Nat} (hB : ∀ w ∈ BIG, w.before args s = true) (hR : fr + 1 ≤ R.frames ∧ 8 + (6 + 11) + lo ≤ R.locals) : CallW R s args RX8 RX8 211 yX8_body cX8_body 6 none (Cond.code yX8_body cX8_body 6 none :: BIG) (rmm fr lo) 0 0 3 := cwV 3 hB (goodV bg_20_7 bg_20_8 bg_20_9 bg_1_5 bg_20_10) rfl rfl rfl (by decide +kernel) hR
theorem cw_X8_215 {R : Room} {s : State} {args : Array Value} {fr lo : Nat} (hB : ∀ w ∈ BIG, w.before args s = true) (hR : fr + 1 ≤ R.frames ∧ 8 + (5 + 11) + lo ≤ R.locals) : CallW R s args RX8 RX8 215 yX8_codedAt cX8_codedAt 5 (some .int) (Cond.code yX8_codedAt cX8_codedAt 5 (some .int) :: BIG) (rmm fr lo) 0 0 2 := cwV 2 hB (goodV bg_20_19 bg_20_20 bg_20_21 bg_1_5 bg_20_22) rfl rfl rfl (by decide +kernel) hR
theorem cw_X8_218 {R : Room} {s : State} {args : Array Value} {fr lo : Nat} (hB : ∀ w ∈ BIG, w.before args s = true) (hR : fr + 1 ≤ R.frames ∧ 8 + (3 + 11) + lo ≤ R.locals) : CallW R s args RX8 RX8 218 yX8_token cX8_token 3 none (Cond.code yX8_token cX8_token 3 none :: BIG) (rmm fr lo) 0 0 1 := cwV 1 hB (goodV bg_21_2 bg_21_3 bg_21_4 bg_1_5 bg_21_5) rfl rfl rfl (by decide +kernel) hR
theorem cw_X8_223 {R : Room} {s : State} {args : Array Value} {fr lo : Nat} (hB : ∀ w ∈ BIG, w.before args s = true) (hR : fr + 1 ≤ R.frames ∧ 8 + (6 + 11) + lo ≤ R.locals) : CallB R s args RX8 223 yX8_isIn cX8_isIn 6 (some .boolean) (Cond.code yX8_isIn cX8_isIn 6 (some .boolean) :: BIG) (rmm fr lo) 0 0 3 ∧ (Cond.static yX8_isIn).before args s = true := va_cwS 3 hB (goodS bg_10_12 bg_10_13 bg_1_5 bg_10_14) rfl rfl rfl (by decide +kernel) hR
theorem cw_X8_227 {R : Room} {s : State} {args : Array Value} {fr lo : Nat} (hB : ∀ w ∈ BIG, w.before args s = true) (hR : fr + 1 ≤ R.frames ∧ 8 + (2 + 11) + lo ≤ R.locals) : CallW R s args RX8 RX8 227 yX8_refused cX8_refused 2 (some .boolean) (Cond.code yX8_refused cX8_refused 2 (some .boolean) :: BIG) (rmm fr lo) 0 0 1 := cwV 1 hB (goodV bg_10_15 bg_10_16 bg_10_17 bg_1_5 bg_10_18) rfl rfl rfl (by decide +kernel) hR
theorem cw_X8_238 {R : Room} {s : State} {args : Array Value} {fr lo : Nat} (hB : ∀ w ∈ BIG, w.before args s = true) (hR : fr + 1 ≤ R.frames ∧ 8 + (2 + 11) + lo ≤ R.locals) : CallW R s args RX8 RX8 238 yX8_isOld cX8_isOld 2 (some .boolean) (Cond.code yX8_isOld cX8_isOld 2 (some .boolean) :: BIG) (rmm fr lo) 0 0 1 := cwV 1 hB (goodV bg_18_17 bg_18_18 bg_18_19 bg_1_5 bg_18_20) rfl rfl rfl (by decide +kernel) hR
theorem cw_X8_241 {R : Room} {s : State} {args : Array Value} {fr lo : Nat} (hB : ∀ w ∈ BIG, w.before args s = true) (hR : fr + 1 ≤ R.frames ∧ 8 + (2 + 11) + lo ≤ R.locals) : CallW R s args RX8 RX8 241 yX8_isIdle cX8_isIdle 2 (some .boolean) (Cond.code yX8_isIdle cX8_isIdle 2 (some .boolean) :: BIG) (rmm fr lo) 0 0 1 := cwV 1 hB (goodV bg_18_21 bg_18_22 bg_18_23 bg_1_5 bg_19_0) rfl rfl rfl (by decide +kernel) hR
theorem cw_X8_244 {R : Room} {s : State} {args : Array Value} {fr lo : Nat} (hB : ∀ w ∈ BIG, w.before args s = true) (hR : fr + 1 ≤ R.frames ∧ 8 + (4 + 11) + lo ≤ R.locals) : CallW R s args RX8 RX8 244 yX8_newId cX8_newId 4 (some .long) (Cond.code yX8_newId cX8_newId 4 (some .long) :: BIG) (rmm fr lo) 0 0 0 := cwV 0 hB (goodV bg_19_1 bg_19_2 bg_19_3 bg_1_5 bg_19_4) rfl rfl rfl (by decide +kernel) hR
theorem cw_X8_248 {R : Room} {s : State} {args : Array Value} {fr lo : Nat} (hB : ∀ w ∈ BIG, w.before args s = true) (hR : fr + 1 ≤ R.frames ∧ 8 + (4 + 11) + lo ≤ R.locals) : CallW R s args RX8 RX8 248 yX8_issue cX8_issue 4 none (Cond.code yX8_issue cX8_issue 4 none :: BIG) (rmm fr lo) 0 0 1 := cwV 1 hB (goodV bg_20_3 bg_20_4 bg_20_5 bg_1_5 bg_20_6) rfl rfl rfl (by decide +kernel) hR
theorem cw_X8_251 {R : Room} {s : State} {args : Array Value} {fr lo : Nat} (hB : ∀ w ∈ BIG, w.before args s = true) (hR : fr + 1 ≤ R.frames ∧ 8 + (1 + 11) + lo ≤ R.locals) : CallB R s args RX8 251 yX8_valueOf cX8_valueOf 1 (some .int) (Cond.code yX8_valueOf cX8_valueOf 1 (some .int) :: BIG) (rmm fr lo) 0 0 1 ∧ (Cond.static yX8_valueOf).before args s = true := va_cwS 1 hB (goodS bg_26_11 bg_26_12 bg_1_5 bg_26_13) rfl rfl rfl (by decide +kernel) hR
theorem cw_X8_254 {R : Room} {s : State} {args : Array Value} {fr lo : Nat} (hB : ∀ w ∈ BIG, w.before args s = true) (hR : fr + 1 ≤ R.frames ∧ 8 + (5 + 11) + lo ≤ R.locals) : CallW R s args RX8 RX8 254 yX8_isForm cX8_isForm 5 (some .boolean) (Cond.code yX8_isForm cX8_isForm 5 (some .boolean) :: BIG) (rmm fr lo) 0 0 0 := cwV 0 hB (goodV bg_26_7 bg_26_8 bg_26_9 bg_1_5 bg_26_10) rfl rfl rfl (by decide +kernel) hR
theorem cw_X8_261 {R : Room} {s : State} {args : Array Value} {fr lo : Nat} (hB : ∀ w ∈ BIG, w.before args s = true) (hR : fr + 1 ≤ R.frames ∧ 8 + (2 + 11) + lo ≤ R.locals) : CallW R s args RX8 RX8 261 yX8_isLive cX8_isLive 2 (some .boolean) (Cond.code yX8_isLive cX8_isLive 2 (some .boolean) :: BIG) (rmm fr lo) 0 0 1 := cwV 1 hB (goodV bg_26_14 bg_26_15 bg_26_16 bg_1_5 bg_26_17) rfl rfl rfl (by decide +kernel) hR
theorem cw_X8_264 {R : Room} {s : State} {args : Array Value} {fr lo : Nat} (hB : ∀ w ∈ BIG, w.before args s = true) (hR : fr + 1 ≤ R.frames ∧ 8 + (7 + 11) + lo ≤ R.locals) : CallW R s args RX8 RX8 264 yX8_look cX8_look 7 (some .int) (Cond.code yX8_look cX8_look 7 (some .int) :: BIG) (rmm fr lo) 0 0 1 := cwV 1 hB (goodV bg_26_3 bg_26_4 bg_26_5 bg_1_5 bg_26_6) rfl rfl rfl (by decide +kernel) hR
theorem cw_X8_277 {R : Room} {s : State} {args : Array Value} {fr lo : Nat} (hB : ∀ w ∈ BIG, w.before args s = true) (hR : fr + 1 ≤ R.frames ∧ 8 + (1 + 11) + lo ≤ R.locals) : CallB R s args RX8 277 yX8_many cX8_many 1 (some .int) (Cond.code yX8_many cX8_many 1 (some .int) :: BIG) (rmm fr lo) 0 0 1 ∧ (Cond.static yX8_many).before args s = true := va_cwS 1 hB (goodS bg_28_19 bg_28_20 bg_1_5 bg_28_21) rfl rfl rfl (by decide +kernel) hR
theorem cw_X8_280 {R : Room} {s : State} {args : Array Value} {fr lo : Nat} (hB : ∀ w ∈ BIG, w.before args s = true) (hR : fr + 1 ≤ R.frames ∧ 8 + (7 + 11) + lo ≤ R.locals) : CallW R s args RX8 RX8 280 yX8_typed cX8_typed 7 (some .int) (Cond.code yX8_typed cX8_typed 7 (some .int) :: BIG) (rmm fr lo) 0 0 3 := cwV 3 hB (goodV bg_28_22 bg_28_23 bg_29_0 bg_1_5 bg_29_1) rfl rfl rfl (by decide +kernel) hR
end LK
end
section
def byO (pk : Int32) (k : Nat) : Int32 := ushr pk (nI (24 - 8 * k)) &&& nI 255
def rot (w : Int32) (b : Nat) : Int32 := ushr w (nI b) ||| w <<< (nI (32 - b) &&& 31)
set_option maxHeartbeats 4000000 in
set_option maxRecDepth 100000 in
theorem c_X7_byteOf (g : GG) (l : Launch) (pk : Int32) (k : Nat) (hk : k < 4) : Ct g l yX7_byteOf cX7_byteOf 2 (some .int) 0 0 [.int pk, .int (nI k)] [] (Ri g (fun (v : Int32) (u : Unit) => v = byO pk k) (fun (u : Unit) => [])) := by
  refine mkC (by decide) (Nat.le_of_ble_eq_true rfl) ?_
  intro p e s m args below meth c A ls QQ F hr hlk hnm hQ hw hl
  have hx := F.1
  have hb := F.2.1
  replace hl : lv_has ls 2 [(0, .int pk), (1, .int (nI k))] := hl
  refine lv_iload_n hx hb dX7_byteOf_0 rfl (lv_at hl 0 rfl) ?_
  refine lv_bipush (v := nI 24) hx hb dX7_byteOf_1 (by decide) ?_
  refine lv_bipush (v := nI 8) hx hb dX7_byteOf_3 (by decide) ?_
  refine lv_iload_n hx hb dX7_byteOf_5 rfl (lv_at hl 1 rfl) ?_
  refine n_mul hx hb dX7_byteOf_6 ?_
  refine n_sub hx hb (by omega) dX7_byteOf_7 ?_
  refine lv_iushr (v := ushr pk (nI (24 - (8 * k)))) hx hb dX7_byteOf_8 rfl ?_
  refine lv_sipush (v := nI 255) hx hb dX7_byteOf_9 (by decide) ?_
  refine lv_iand hx hb dX7_byteOf_12 ?_
  exact rt_i F hr hlk hQ hw () rfl rfl dX7_byteOf_13
set_option maxHeartbeats 4000000 in
set_option maxRecDepth 100000 in
theorem c_X3_turn (g : GG) (l : Launch) (w : Int32) (b : Nat) (hb2 : b ≤ 32) : Ct g l yX3_turn cX3_turn 2 (some .int) 0 0 [.int w, .int (nI b)] [] (Ri g (fun (v : Int32) (u : Unit) => v = rot w b) (fun (u : Unit) => [])) := by
  refine mkC (by decide) (Nat.le_of_ble_eq_true rfl) ?_
  intro p e s m args below meth c A ls QQ F hr hlk hnm hQ hw hl
  have hx := F.1
  have hb := F.2.1
  replace hl : lv_has ls 2 [(0, .int w), (1, .int (nI b))] := hl
  refine lv_iload_n hx hb dX3_turn_0 rfl (lv_at hl 0 rfl) ?_
  refine lv_iload_n hx hb dX3_turn_1 rfl (lv_at hl 1 rfl) ?_
  refine lv_iushr (v := ushr w (nI b)) hx hb dX3_turn_2 rfl ?_
  refine lv_iload_n hx hb dX3_turn_3 rfl (lv_at hl 0 rfl) ?_
  refine lv_bipush (v := nI 32) hx hb dX3_turn_4 (by decide) ?_
  refine lv_iload_n hx hb dX3_turn_6 rfl (lv_at hl 1 rfl) ?_
  refine n_sub hx hb (by omega) dX3_turn_7 ?_
  refine lv_ishl hx hb dX3_turn_8 ?_
  refine lv_ior hx hb dX3_turn_9 ?_
  exact rt_i F hr hlk hQ hw () rfl rfl dX3_turn_10
def hasT (k ln : Int32) : Int32 := if k < 0 then nI 0 else if ln ≤ k then nI 0 else nI 1
set_option maxHeartbeats 4000000 in
set_option maxRecDepth 100000 in
theorem c_X5_has (g : GG) (l : Launch) (h0 : Nat) (h1 : Nat) (f : Nat → Int32) (ln : Nat) (k : Int32) : Ct g l yX5_has cX5_has 2 (some .boolean) 0 0 [.ref h0, .int k] [(h0, .inr (4, [.ref h1, .int (nI ln)])), (h1, iA g 40 f)] (Ri g (fun (v : Int32) (u : Unit) => v = hasT k (nI ln)) (fun (u : Unit) => [(h0, .inr (4, [.ref h1, .int (nI ln)])), (h1, iA g 40 f)])) := by
  refine mkC (by decide) (Nat.le_of_ble_eq_true rfl) ?_
  intro p e s m args below meth c A ls QQ F hr hlk hnm hQ hw hl
  have hx := F.1
  have hb := F.2.1
  replace hl : lv_has ls 2 [(0, .ref h0), (1, .int k)] := hl
  refine lv_iload_n hx hb dX5_has_0 rfl (lv_at hl 1 rfl) ?_
  refine lv_if_lt (tgt := 16) hx hb dX5_has_1 (by decide) (fun c_1 => ?_) (fun c_1 => ?_)
  · refine lv_iconst (v := nI 0) hx hb dX5_has_16 (by decide) ?_
    exact rt_z F hr rfl hlk hQ hw () (by simp only [hasT, c_1, if_true, if_false]) rfl dX5_has_17
  · refine lv_iload_n hx hb dX5_has_4 rfl (lv_at hl 1 rfl) ?_
    refine lv_aload_n hx hb dX5_has_5 rfl (lv_at hl 0 rfl) ?_
    refine gf_X5_15 F hw 0 rfl rfl dX5_has_6 ?_
    refine lv_icmp_ge (tgt := 16) hx hb dX5_has_9 (by decide) (fun c_9 => ?_) (fun c_9 => ?_)
    · refine lv_iconst (v := nI 0) hx hb dX5_has_16 (by decide) ?_
      exact rt_z F hr rfl hlk hQ hw () (by simp only [hasT, c_1, c_9, if_true, if_false]) rfl dX5_has_17
    · refine lv_iconst (v := nI 1) hx hb dX5_has_12 (by decide) ?_
      refine lv_goto (tgt := 17) hx hb dX5_has_13 (by decide) ?_
      exact rt_z F hr rfl hlk hQ hw () (by simp only [hasT, c_1, c_9, if_true, if_false]) rfl dX5_has_17
set_option maxHeartbeats 4000000 in
set_option maxRecDepth 100000 in
theorem c_X5_addSign (g : GG) (l : Launch) (h0 : Nat) (h1 : Nat) (f : Nat → Int32) (ln : Nat) (x : Int32) (hln : ln < 40) : Ct g l yX5_addSign cX5_addSign 2 none 0 0 [.ref h0, .int x] [(h0, .inr (4, [.ref h1, .int (nI ln)])), (h1, iA g 40 f)] (Rv g (fun (u : Unit) => True) (fun (u : Unit) => [(h0, .inr (4, [.ref h1, .int (nI (ln + 1))])), (h1, iA g 40 (upd f ln x))])) := by
  refine mkC (by decide) (Nat.le_of_ble_eq_true rfl) ?_
  intro p e s m args below meth c A ls QQ F hr hlk hnm hQ hw hl
  have hx := F.1
  have hb := F.2.1
  replace hl : lv_has ls 2 [(0, .ref h0), (1, .int x)] := hl
  refine lv_aload_n hx hb dX5_addSign_0 rfl (lv_at hl 0 rfl) ?_
  refine gf_X5_15 F hw 0 rfl rfl dX5_addSign_1 ?_
  refine lv_bipush (v := nI 40) hx hb dX5_addSign_4 (by decide) ?_
  refine n_ge (tgt := 29) hx hb (by omega) (by omega) dX5_addSign_6 (by decide) (fun c_6 => ?_) (fun c_6 => ?_)
  · exact absurd c_6 (by omega)
  · refine lv_aload_n hx hb dX5_addSign_9 rfl (lv_at hl 0 rfl) ?_
    refine gf_X5_9 F hw 0 rfl rfl dX5_addSign_10 ?_
    refine lv_aload_n hx hb dX5_addSign_13 rfl (lv_at hl 0 rfl) ?_
    refine gf_X5_15 F hw 0 rfl rfl dX5_addSign_14 ?_
    refine lv_iload_n hx hb dX5_addSign_17 rfl (lv_at hl 1 rfl) ?_
    refine ia_st F hw 1 rfl (by omega) (by omega) dX5_addSign_18 (fun H locs hw => ?_)
    replace hw : Wd g s A H locs [(h0, .inr (4, [.ref h1, .int (nI ln)])), (h1, iA g 40 (upd f ln x))] := hw
    refine lv_aload_n hx hb dX5_addSign_19 rfl (lv_at hl 0 rfl) ?_
    refine lv_dup hx hb dX5_addSign_20 rfl ?_
    refine gf_X5_15 F hw 0 rfl rfl dX5_addSign_21 ?_
    refine lv_iconst (v := nI 1) hx hb dX5_addSign_24 (by decide) ?_
    refine n_add hx hb dX5_addSign_25 ?_
    refine pf_X5_15 F hw 0 rfl (by decide) rfl rfl dX5_addSign_26 (fun H locs hw => ?_)
    replace hw : Wd g s A H locs [(h0, .inr (4, [.ref h1, .int (nI (ln + 1))])), (h1, iA g 40 (upd f ln x))] := hw
    exact rt_v F hr hlk hQ hw () trivial rfl dX5_addSign_29
def addS (pk : Int32) (f : Nat → Int32) (ln : Nat) : Nat → (Nat → Int32) × Nat
  | 0 => (f, ln)
  | k + 1 => if byO pk k = 0 then addS pk f ln k else (upd (addS pk f ln k).1 (addS pk f ln k).2 (byO pk k), (addS pk f ln k).2 + 1)
theorem addS_0 {pk : Int32} {f : Nat → Int32} {ln k : Nat} (h : byO pk k = 0) : addS pk f ln (k + 1) = addS pk f ln k := if_pos h
theorem addS_1 {pk : Int32} {f : Nat → Int32} {ln k : Nat} (h : ¬ byO pk k = 0) : addS pk f ln (k + 1) = (upd (addS pk f ln k).1 (addS pk f ln k).2 (byO pk k), (addS pk f ln k).2 + 1) := if_neg h
theorem addS_mono (pk : Int32) (f : Nat → Int32) (ln k j : Nat) : (addS pk f ln k).2 ≤ (addS pk f ln (k + j)).2 := by
  induction j with
  | zero => exact Nat.le_refl _
  | succ j ih =>
    refine Nat.le_trans ih ?_
    show _ ≤ (addS pk f ln ((k + j) + 1)).2
    by_cases h : byO pk (k + j) = 0
    · rw [addS_0 h]; exact Nat.le_refl _
    · rw [addS_1 h]; exact Nat.le_succ _
theorem addS_lt {pk : Int32} {f : Nat → Int32} {ln k : Nat} (hT : (addS pk f ln 4).2 ≤ 40) (h : ¬ byO pk k = 0) (hk : k < 4) : (addS pk f ln k).2 < 40 := by
  have h1 := addS_mono pk f ln (k + 1) (4 - (k + 1))
  rw [show k + 1 + (4 - (k + 1)) = 4 by omega, addS_1 h] at h1
  have h2 : (addS pk f ln k).2 + 1 ≤ (addS pk f ln 4).2 := h1
  omega
set_option maxHeartbeats 4000000 in
set_option maxRecDepth 100000 in
theorem c_X5_addSigns (g : GG) (l : Launch) (h0 : Nat) (h1 : Nat) (f : Nat → Int32) (ln : Nat) (pk : Int32) (hT : (addS pk f ln 4).2 ≤ 40) : Ct g l yX5_addSigns cX5_addSigns 4 none 1 21 [.ref h0, .int pk] [(h0, .inr (4, [.ref h1, .int (nI ln)])), (h1, iA g 40 f)] (Rv g (fun (u : Unit) => True) (fun (u : Unit) => [(h0, .inr (4, [.ref h1, .int (nI ((addS pk f ln 4).2))])), (h1, iA g 40 ((addS pk f ln 4).1))])) := by
  refine mkC (by decide) (Nat.le_of_ble_eq_true rfl) ?_
  intro p e s m args below meth c A ls QQ F hr hlk hnm hQ hw hl
  have hx := F.1
  have hb := F.2.1
  replace hl : lv_has ls 4 [(0, .ref h0), (1, .int pk)] := hl
  refine lv_iconst (v := nI 0) hx hb dX5_addSigns_0 (by decide) ?_
  refine lv_istore_n (lv' := [(2, .int (nI 0)), (0, .ref h0), (1, .int pk)]) hx hb dX5_addSigns_1 rfl hl (by decide) rfl (fun ls hl => ?_)
  have L_2 : ∀ (nn k : Nat), k ≤ 4 → 4 < k + nn → ∀ (H : Heap) (locs : List Loc) (ls : Array Slot), Wd g s A H locs [(h0, .inr (4, [.ref h1, .int (nI ((addS pk f ln k).2))])), (h1, iA g 40 ((addS pk f ln k).1))] → lv_has ls 4 [(0, .ref h0), (1, .int pk), (2, .int (nI k))] → W p l e (rmm 1 21) s m args below meth c H locs 0 0 QQ (F0 m 2 ls []) := by
    intro nn
    induction nn with
    | zero => intro k h1 h2; exact absurd h2 (by omega)
    | succ nn ih =>
      intro k hk_k hn_k H locs ls hw hl
      refine lv_iload_n hx hb dX5_addSigns_2 rfl (lv_at hl 2 rfl) ?_
      refine lv_iconst (v := nI 4) hx hb dX5_addSigns_3 (by decide) ?_
      refine n_ge (tgt := 28) hx hb (by omega) (by omega) dX5_addSigns_4 (by decide) (fun c_4 => ?_) (fun c_4 => ?_)
      · obtain rfl : k = 4 := by omega
        exact rt_v F hr hlk hQ hw () trivial rfl dX5_addSigns_28
      · refine lv_iload_n hx hb dX5_addSigns_7 rfl (lv_at hl 1 rfl) ?_
        refine lv_iload_n hx hb dX5_addSigns_8 rfl (lv_at hl 2 rfl) ?_
        refine cl_i hw [] rfl (rn_N F hw (c_X7_byteOf g l pk k (by omega)) (cw_X5_19 hw F.2.2.2.2 ⟨by decide, by decide⟩) [] (by decide) rfl hl.1 rfl (by decide) dX5_addSigns_9 ⟨Nat.zero_le _, Nat.zero_le _⟩) (fun _ => rfl) (fun v_2 u_1 H locs hp_3 hw => ?_)
        subst hp_3
        replace hw : Wd g s A H locs [(h0, .inr (4, [.ref h1, .int (nI ((addS pk f ln k).2))])), (h1, iA g 40 ((addS pk f ln k).1))] := hw
        refine lv_istore_n (lv' := [(3, .int ((byO pk k))), (0, .ref h0), (1, .int pk), (2, .int (nI k))]) hx hb dX5_addSigns_12 rfl hl (by decide) rfl (fun ls hl => ?_)
        refine lv_iload_n hx hb dX5_addSigns_13 rfl (lv_at hl 0 rfl) ?_
        refine lv_if_eq (tgt := 22) hx hb dX5_addSigns_14 (by decide) (fun c_14 => ?_) (fun c_14 => ?_)
        · refine lv_iinc (v := nI (k + 1)) (lv' := [(2, .int (nI (k + 1))), (3, .int ((byO pk k))), (0, .ref h0), (1, .int pk)]) hx hb dX5_addSigns_22 hl (k := 3) rfl (inc_n _ 1) (by decide) rfl (fun ls hl => ?_)
          refine lv_goto (tgt := 2) hx hb dX5_addSigns_25 (by decide) ?_
          exact ih (k + 1) (by omega) (by omega) _ _ _ (by first | (rw [addS_0 c_14]; exact hw) | (rw [addS_1 c_14]; exact hw)) (lv_sub hl [2, 3, 0] rfl)
        · refine lv_aload_n hx hb dX5_addSigns_17 rfl (lv_at hl 1 rfl) ?_
          refine lv_iload_n hx hb dX5_addSigns_18 rfl (lv_at hl 0 rfl) ?_
          refine cl_v hw [0, 1] rfl (rn_V F hw (c_X5_addSign g l h0 h1 ((addS pk f ln k).1) ((addS pk f ln k).2) (byO pk k) (addS_lt hT c_14 (by omega))) (cw_X5_23 F.2.2.2.2 ⟨by decide, by decide⟩) [0, 1] (by decide) rfl 0 rfl rfl rfl hl.1 rfl (by decide) dX5_addSigns_19 ⟨Nat.zero_le _, Nat.zero_le _⟩) (fun _ => rfl) (fun u_4 H locs hp_6 hw => ?_)
          replace hw : Wd g s A H locs [(h0, .inr (4, [.ref h1, .int (nI (((addS pk f ln k).2) + 1))])), (h1, iA g 40 (upd ((addS pk f ln k).1) ((addS pk f ln k).2) (byO pk k)))] := hw
          refine lv_iinc (v := nI (k + 1)) (lv' := [(2, .int (nI (k + 1))), (3, .int ((byO pk k))), (0, .ref h0), (1, .int pk)]) hx hb dX5_addSigns_22 hl (k := 3) rfl (inc_n _ 1) (by decide) rfl (fun ls hl => ?_)
          refine lv_goto (tgt := 2) hx hb dX5_addSigns_25 (by decide) ?_
          exact ih (k + 1) (by omega) (by omega) _ _ _ (by first | (rw [addS_0 c_14]; exact hw) | (rw [addS_1 c_14]; exact hw)) (lv_sub hl [2, 3, 0] rfl)
  exact L_2 (4 + 1) 0 (by omega) (by omega) _ _ _ hw (lv_sub hl [1, 2, 0] rfl)
end
