section
-- ===== PART A: goes FIRST, ahead of the names: the tables' words, and 'selects' of the private methods out of them =====
/-- a private method of a class that the tables say can be made, by its rows of tables_1 -/
def lw_okq (q : MethodName × Nat) : Prop := (q.1.cls ≠ "java/lang/invoke/MethodHandle" ∧ q.1.cls ≠ "java/lang/invoke/VarHandle") ∧ Cond.instantiable q.1.cls q.2 ∈ tables_1 ∧ Cond.privateMethod q.1 ∈ tables_1 ∧ Cond.instanceMethod q.1 ∈ tables_1
theorem lw_p0 : lw_okq (⟨"java/lang/Throwable", "fillInStackTrace", "(I)Ljava/lang/Throwable;"⟩, 6) := ⟨⟨by decide +kernel, by decide +kernel⟩, List.mem_of_getElem? (i := 170) (by decide +kernel), List.mem_of_getElem? (i := 168) (by decide +kernel), List.mem_of_getElem? (i := 169) (by decide +kernel)⟩
theorem lw_p1 : lw_okq (⟨"HostKeyring", "appendLine", "(II)LHostKeyring$Line;"⟩, 12) := ⟨⟨by decide +kernel, by decide +kernel⟩, List.mem_of_getElem? (i := 15) (by decide +kernel), List.mem_of_getElem? (i := 203) (by decide +kernel), List.mem_of_getElem? (i := 204) (by decide +kernel)⟩
theorem lw_p2 : lw_okq (⟨"HostKeyring", "lineAt", "(I)LHostKeyring$Line;"⟩, 12) := ⟨⟨by decide +kernel, by decide +kernel⟩, List.mem_of_getElem? (i := 15) (by decide +kernel), List.mem_of_getElem? (i := 235) (by decide +kernel), List.mem_of_getElem? (i := 236) (by decide +kernel)⟩
theorem lw_p3 : lw_okq (⟨"HostKeyring", "takeOut", "(I)V"⟩, 12) := ⟨⟨by decide +kernel, by decide +kernel⟩, List.mem_of_getElem? (i := 15) (by decide +kernel), List.mem_of_getElem? (i := 305) (by decide +kernel), List.mem_of_getElem? (i := 306) (by decide +kernel)⟩
theorem lw_p4 : lw_okq (⟨"HostKeyring", "countRevokedCertificates", "()I"⟩, 12) := ⟨⟨by decide +kernel, by decide +kernel⟩, List.mem_of_getElem? (i := 15) (by decide +kernel), List.mem_of_getElem? (i := 374) (by decide +kernel), List.mem_of_getElem? (i := 375) (by decide +kernel)⟩
theorem lw_p5 : lw_okq (⟨"HostKeyring", "isInRevokedSpan", "(LHostKeyring$Certificate;)Z"⟩, 12) := ⟨⟨by decide +kernel, by decide +kernel⟩, List.mem_of_getElem? (i := 15) (by decide +kernel), List.mem_of_getElem? (i := 378) (by decide +kernel), List.mem_of_getElem? (i := 379) (by decide +kernel)⟩
theorem lw_p6 : lw_okq (⟨"HostKeyring", "certificateAt", "(I)LHostKeyring$Certificate;"⟩, 12) := ⟨⟨by decide +kernel, by decide +kernel⟩, List.mem_of_getElem? (i := 15) (by decide +kernel), List.mem_of_getElem? (i := 400) (by decide +kernel), List.mem_of_getElem? (i := 401) (by decide +kernel)⟩
theorem lw_p7 : lw_okq (⟨"HostKeyring", "judgementOf", "(IIILHostKeyring$Certificate;)I"⟩, 12) := ⟨⟨by decide +kernel, by decide +kernel⟩, List.mem_of_getElem? (i := 15) (by decide +kernel), List.mem_of_getElem? (i := 405) (by decide +kernel), List.mem_of_getElem? (i := 406) (by decide +kernel)⟩
theorem lw_p8 : lw_okq (⟨"HostKeyring", "judgementByLines", "(IIII)I"⟩, 12) := ⟨⟨by decide +kernel, by decide +kernel⟩, List.mem_of_getElem? (i := 15) (by decide +kernel), List.mem_of_getElem? (i := 412) (by decide +kernel), List.mem_of_getElem? (i := 413) (by decide +kernel)⟩
theorem lw_p9 : lw_okq (⟨"HostKeyring", "judgementByMatch", "(LHostKeyring$Line;II)I"⟩, 12) := ⟨⟨by decide +kernel, by decide +kernel⟩, List.mem_of_getElem? (i := 15) (by decide +kernel), List.mem_of_getElem? (i := 427) (by decide +kernel), List.mem_of_getElem? (i := 428) (by decide +kernel)⟩
theorem lw_p10 : lw_okq (⟨"HostKeyring", "isLivePlain", "(LHostKeyring$Line;)Z"⟩, 12) := ⟨⟨by decide +kernel, by decide +kernel⟩, List.mem_of_getElem? (i := 15) (by decide +kernel), List.mem_of_getElem? (i := 435) (by decide +kernel), List.mem_of_getElem? (i := 436) (by decide +kernel)⟩
theorem lw_p11 : lw_okq (⟨"HostKeyring", "isGood", "(LHostKeyring$Certificate;II)Z"⟩, 12) := ⟨⟨by decide +kernel, by decide +kernel⟩, List.mem_of_getElem? (i := 15) (by decide +kernel), List.mem_of_getElem? (i := 449) (by decide +kernel), List.mem_of_getElem? (i := 450) (by decide +kernel)⟩
theorem lw_p12 : lw_okq (⟨"HostKeyring", "hasAuthority", "(III)Z"⟩, 12) := ⟨⟨by decide +kernel, by decide +kernel⟩, List.mem_of_getElem? (i := 15) (by decide +kernel), List.mem_of_getElem? (i := 454) (by decide +kernel), List.mem_of_getElem? (i := 455) (by decide +kernel)⟩
theorem lw_p13 : lw_okq (⟨"HostKeyring", "seeToday", "(IIII)V"⟩, 12) := ⟨⟨by decide +kernel, by decide +kernel⟩, List.mem_of_getElem? (i := 15) (by decide +kernel), List.mem_of_getElem? (i := 458) (by decide +kernel), List.mem_of_getElem? (i := 459) (by decide +kernel)⟩
theorem lw_p14 : lw_okq (⟨"HostKeyring", "letWait", "(III)V"⟩, 12) := ⟨⟨by decide +kernel, by decide +kernel⟩, List.mem_of_getElem? (i := 15) (by decide +kernel), List.mem_of_getElem? (i := 462) (by decide +kernel), List.mem_of_getElem? (i := 463) (by decide +kernel)⟩
theorem lw_p15 : lw_okq (⟨"HostKeyring", "appendSighted", "(III)V"⟩, 12) := ⟨⟨by decide +kernel, by decide +kernel⟩, List.mem_of_getElem? (i := 15) (by decide +kernel), List.mem_of_getElem? (i := 466) (by decide +kernel), List.mem_of_getElem? (i := 467) (by decide +kernel)⟩
def lw_privs_1 : List (MethodName × Nat) := [(⟨"java/lang/Throwable", "fillInStackTrace", "(I)Ljava/lang/Throwable;"⟩, 6), (⟨"HostKeyring", "appendLine", "(II)LHostKeyring$Line;"⟩, 12), (⟨"HostKeyring", "lineAt", "(I)LHostKeyring$Line;"⟩, 12), (⟨"HostKeyring", "takeOut", "(I)V"⟩, 12), (⟨"HostKeyring", "countRevokedCertificates", "()I"⟩, 12), (⟨"HostKeyring", "isInRevokedSpan", "(LHostKeyring$Certificate;)Z"⟩, 12), (⟨"HostKeyring", "certificateAt", "(I)LHostKeyring$Certificate;"⟩, 12), (⟨"HostKeyring", "judgementOf", "(IIILHostKeyring$Certificate;)I"⟩, 12), (⟨"HostKeyring", "judgementByLines", "(IIII)I"⟩, 12), (⟨"HostKeyring", "judgementByMatch", "(LHostKeyring$Line;II)I"⟩, 12), (⟨"HostKeyring", "isLivePlain", "(LHostKeyring$Line;)Z"⟩, 12), (⟨"HostKeyring", "isGood", "(LHostKeyring$Certificate;II)Z"⟩, 12), (⟨"HostKeyring", "hasAuthority", "(III)Z"⟩, 12), (⟨"HostKeyring", "seeToday", "(IIII)V"⟩, 12), (⟨"HostKeyring", "letWait", "(III)V"⟩, 12), (⟨"HostKeyring", "appendSighted", "(III)V"⟩, 12)]
theorem lw_r1 : ∀ q ∈ lw_privs_1, lw_okq q := List.forall_mem_cons.mpr ⟨lw_p0, List.forall_mem_cons.mpr ⟨lw_p1, List.forall_mem_cons.mpr ⟨lw_p2, List.forall_mem_cons.mpr ⟨lw_p3, List.forall_mem_cons.mpr ⟨lw_p4, List.forall_mem_cons.mpr ⟨lw_p5, List.forall_mem_cons.mpr ⟨lw_p6, List.forall_mem_cons.mpr ⟨lw_p7, List.forall_mem_cons.mpr ⟨lw_p8, List.forall_mem_cons.mpr ⟨lw_p9, List.forall_mem_cons.mpr ⟨lw_p10, List.forall_mem_cons.mpr ⟨lw_p11, List.forall_mem_cons.mpr ⟨lw_p12, List.forall_mem_cons.mpr ⟨lw_p13, List.forall_mem_cons.mpr ⟨lw_p14, List.forall_mem_cons.mpr ⟨lw_p15, fun _ h => absurd h List.not_mem_nil⟩⟩⟩⟩⟩⟩⟩⟩⟩⟩⟩⟩⟩⟩⟩⟩
theorem lw_p16 : lw_okq (⟨"HostKeyring", "turnLines", "(IIIII)I"⟩, 12) := ⟨⟨by decide +kernel, by decide +kernel⟩, List.mem_of_getElem? (i := 15) (by decide +kernel), List.mem_of_getElem? (i := 488) (by decide +kernel), List.mem_of_getElem? (i := 489) (by decide +kernel)⟩
theorem lw_p17 : lw_okq (⟨"HostKeyring", "isToBeCleaned", "(LHostKeyring$Line;I)Z"⟩, 12) := ⟨⟨by decide +kernel, by decide +kernel⟩, List.mem_of_getElem? (i := 15) (by decide +kernel), List.mem_of_getElem? (i := 515) (by decide +kernel), List.mem_of_getElem? (i := 516) (by decide +kernel)⟩
theorem lw_p18 : lw_okq (⟨"HostKeyringModel", "holds", "(I)Z"⟩, 32) := ⟨⟨by decide +kernel, by decide +kernel⟩, List.mem_of_getElem? (i := 575) (by decide +kernel), List.mem_of_getElem? (i := 697) (by decide +kernel), List.mem_of_getElem? (i := 698) (by decide +kernel)⟩
theorem lw_p19 : lw_okq (⟨"HostKeyringModel", "adds", "(II)V"⟩, 32) := ⟨⟨by decide +kernel, by decide +kernel⟩, List.mem_of_getElem? (i := 575) (by decide +kernel), List.mem_of_getElem? (i := 701) (by decide +kernel), List.mem_of_getElem? (i := 702) (by decide +kernel)⟩
theorem lw_p20 : lw_okq (⟨"HostKeyringModel", "isLine", "(I)Z"⟩, 32) := ⟨⟨by decide +kernel, by decide +kernel⟩, List.mem_of_getElem? (i := 575) (by decide +kernel), List.mem_of_getElem? (i := 709) (by decide +kernel), List.mem_of_getElem? (i := 710) (by decide +kernel)⟩
theorem lw_p21 : lw_okq (⟨"HostKeyringModel", "addsPattern", "(IIIIZ)V"⟩, 32) := ⟨⟨by decide +kernel, by decide +kernel⟩, List.mem_of_getElem? (i := 575) (by decide +kernel), List.mem_of_getElem? (i := 719) (by decide +kernel), List.mem_of_getElem? (i := 720) (by decide +kernel)⟩
theorem lw_p22 : lw_okq (⟨"HostKeyringModel", "addsHashed", "(IIIII)V"⟩, 32) := ⟨⟨by decide +kernel, by decide +kernel⟩, List.mem_of_getElem? (i := 575) (by decide +kernel), List.mem_of_getElem? (i := 727) (by decide +kernel), List.mem_of_getElem? (i := 728) (by decide +kernel)⟩
theorem lw_p23 : lw_okq (⟨"HostKeyringModel", "removes", "(I)V"⟩, 32) := ⟨⟨by decide +kernel, by decide +kernel⟩, List.mem_of_getElem? (i := 575) (by decide +kernel), List.mem_of_getElem? (i := 738) (by decide +kernel), List.mem_of_getElem? (i := 739) (by decide +kernel)⟩
theorem lw_p24 : lw_okq (⟨"HostKeyringModel", "becomesLike", "(II)V"⟩, 32) := ⟨⟨by decide +kernel, by decide +kernel⟩, List.mem_of_getElem? (i := 575) (by decide +kernel), List.mem_of_getElem? (i := 742) (by decide +kernel), List.mem_of_getElem? (i := 743) (by decide +kernel)⟩
theorem lw_p25 : lw_okq (⟨"HostKeyringModel", "isRevoked", "(I)Z"⟩, 32) := ⟨⟨by decide +kernel, by decide +kernel⟩, List.mem_of_getElem? (i := 575) (by decide +kernel), List.mem_of_getElem? (i := 754) (by decide +kernel), List.mem_of_getElem? (i := 755) (by decide +kernel)⟩
theorem lw_p26 : lw_okq (⟨"HostKeyringModel", "isJudged", "(IIII)Z"⟩, 32) := ⟨⟨by decide +kernel, by decide +kernel⟩, List.mem_of_getElem? (i := 575) (by decide +kernel), List.mem_of_getElem? (i := 766) (by decide +kernel), List.mem_of_getElem? (i := 767) (by decide +kernel)⟩
theorem lw_p27 : lw_okq (⟨"HostKeyringModel", "judgement", "(IIII)I"⟩, 32) := ⟨⟨by decide +kernel, by decide +kernel⟩, List.mem_of_getElem? (i := 575) (by decide +kernel), List.mem_of_getElem? (i := 773) (by decide +kernel), List.mem_of_getElem? (i := 774) (by decide +kernel)⟩
theorem lw_p28 : lw_okq (⟨"HostKeyringModel", "has", "(IIZII)Z"⟩, 32) := ⟨⟨by decide +kernel, by decide +kernel⟩, List.mem_of_getElem? (i := 575) (by decide +kernel), List.mem_of_getElem? (i := 777) (by decide +kernel), List.mem_of_getElem? (i := 778) (by decide +kernel)⟩
theorem lw_p29 : lw_okq (⟨"HostKeyringModel", "hasEnded", "(I)Z"⟩, 32) := ⟨⟨by decide +kernel, by decide +kernel⟩, List.mem_of_getElem? (i := 575) (by decide +kernel), List.mem_of_getElem? (i := 781) (by decide +kernel), List.mem_of_getElem? (i := 782) (by decide +kernel)⟩
theorem lw_p30 : lw_okq (⟨"HostKeyringModel", "isFor", "(III)Z"⟩, 32) := ⟨⟨by decide +kernel, by decide +kernel⟩, List.mem_of_getElem? (i := 575) (by decide +kernel), List.mem_of_getElem? (i := 785) (by decide +kernel), List.mem_of_getElem? (i := 786) (by decide +kernel)⟩
theorem lw_p31 : lw_okq (⟨"HostKeyringModel", "isGood", "(III)Z"⟩, 32) := ⟨⟨by decide +kernel, by decide +kernel⟩, List.mem_of_getElem? (i := 575) (by decide +kernel), List.mem_of_getElem? (i := 792) (by decide +kernel), List.mem_of_getElem? (i := 793) (by decide +kernel)⟩
def lw_privs_2 : List (MethodName × Nat) := [(⟨"HostKeyring", "turnLines", "(IIIII)I"⟩, 12), (⟨"HostKeyring", "isToBeCleaned", "(LHostKeyring$Line;I)Z"⟩, 12), (⟨"HostKeyringModel", "holds", "(I)Z"⟩, 32), (⟨"HostKeyringModel", "adds", "(II)V"⟩, 32), (⟨"HostKeyringModel", "isLine", "(I)Z"⟩, 32), (⟨"HostKeyringModel", "addsPattern", "(IIIIZ)V"⟩, 32), (⟨"HostKeyringModel", "addsHashed", "(IIIII)V"⟩, 32), (⟨"HostKeyringModel", "removes", "(I)V"⟩, 32), (⟨"HostKeyringModel", "becomesLike", "(II)V"⟩, 32), (⟨"HostKeyringModel", "isRevoked", "(I)Z"⟩, 32), (⟨"HostKeyringModel", "isJudged", "(IIII)Z"⟩, 32), (⟨"HostKeyringModel", "judgement", "(IIII)I"⟩, 32), (⟨"HostKeyringModel", "has", "(IIZII)Z"⟩, 32), (⟨"HostKeyringModel", "hasEnded", "(I)Z"⟩, 32), (⟨"HostKeyringModel", "isFor", "(III)Z"⟩, 32), (⟨"HostKeyringModel", "isGood", "(III)Z"⟩, 32)]
theorem lw_r2 : ∀ q ∈ lw_privs_2, lw_okq q := List.forall_mem_cons.mpr ⟨lw_p16, List.forall_mem_cons.mpr ⟨lw_p17, List.forall_mem_cons.mpr ⟨lw_p18, List.forall_mem_cons.mpr ⟨lw_p19, List.forall_mem_cons.mpr ⟨lw_p20, List.forall_mem_cons.mpr ⟨lw_p21, List.forall_mem_cons.mpr ⟨lw_p22, List.forall_mem_cons.mpr ⟨lw_p23, List.forall_mem_cons.mpr ⟨lw_p24, List.forall_mem_cons.mpr ⟨lw_p25, List.forall_mem_cons.mpr ⟨lw_p26, List.forall_mem_cons.mpr ⟨lw_p27, List.forall_mem_cons.mpr ⟨lw_p28, List.forall_mem_cons.mpr ⟨lw_p29, List.forall_mem_cons.mpr ⟨lw_p30, List.forall_mem_cons.mpr ⟨lw_p31, fun _ h => absurd h List.not_mem_nil⟩⟩⟩⟩⟩⟩⟩⟩⟩⟩⟩⟩⟩⟩⟩⟩
theorem lw_p32 : lw_okq (⟨"HostKeyringModel", "sees", "(III)V"⟩, 32) := ⟨⟨by decide +kernel, by decide +kernel⟩, List.mem_of_getElem? (i := 575) (by decide +kernel), List.mem_of_getElem? (i := 796) (by decide +kernel), List.mem_of_getElem? (i := 797) (by decide +kernel)⟩
theorem lw_p33 : lw_okq (⟨"HostKeyringModel", "trusts", "(III)V"⟩, 32) := ⟨⟨by decide +kernel, by decide +kernel⟩, List.mem_of_getElem? (i := 575) (by decide +kernel), List.mem_of_getElem? (i := 800) (by decide +kernel), List.mem_of_getElem? (i := 801) (by decide +kernel)⟩
def lw_privs_3 : List (MethodName × Nat) := [(⟨"HostKeyringModel", "sees", "(III)V"⟩, 32), (⟨"HostKeyringModel", "trusts", "(III)V"⟩, 32)]
theorem lw_r3 : ∀ q ∈ lw_privs_3, lw_okq q := List.forall_mem_cons.mpr ⟨lw_p32, List.forall_mem_cons.mpr ⟨lw_p33, fun _ h => absurd h List.not_mem_nil⟩⟩
def lw_privs : List (MethodName × Nat) := lw_privs_1 ++ (lw_privs_2 ++ (lw_privs_3))
def lw_tbl : List Cond := k2_sels lw_privs ++ tables_1
theorem lw_privs_ok : ∀ q ∈ lw_privs, lw_okq q := by
  show ∀ q ∈ lw_privs_1 ++ (lw_privs_2 ++ (lw_privs_3)), lw_okq q
  exact List.forall_mem_append.mpr ⟨lw_r1, List.forall_mem_append.mpr ⟨lw_r2, lw_r3⟩⟩
end
section
/-! ===== BEGIN words of one list among another's, by their places ===== -/
theorem goodIn_r {big : List Cond} (ws : List Cond) (ps : List Nat) (hp : ws = ps.filterMap (fun i => big[i]?)) (h : ws.all goodWord = true) : GoodIn big ws := by
  intro w hw
  have h1 := List.all_eq_true.mp h w hw
  rw [hp] at hw
  obtain ⟨i, -, hi⟩ := List.mem_filterMap.mp hw
  have hm : w ∈ big := by first | exact List.mem_of_getElem? hi | exact List.getElem?_mem hi
  exact ⟨hm, good_of_word h1⟩
theorem goodIn_app {big a b : List Cond} (ha : GoodIn big a) (hb : GoodIn big b) : GoodIn big (a ++ b) := fun w h => (List.mem_append.mp h).elim (ha w) (hb w)
theorem goodIn_ca {big a b : List Cond} {c : Cond} (ha : GoodIn big (c :: a)) (hb : GoodIn big b) : GoodIn big (c :: (a ++ b)) := fun w h => (List.mem_cons.mp h).elim (fun e => ha w (List.mem_cons.mpr (Or.inl e))) (fun h => (List.mem_append.mp h).elim (fun h => ha w (List.mem_cons.mpr (Or.inr h))) (hb w))
theorem goodIn_sub {big ws : List Cond} (hm : ∀ w ∈ ws, w ∈ big) (h : ws.all goodWord = true) : GoodIn big ws := fun w hw => ⟨hm w hw, good_of_word (List.all_eq_true.mp h w hw)⟩
/-! ===== END ===== -/

/-! ===== BEGIN exceptions that leave a method, and their catching by the caller (launches without stack traces) ===== -/
section VXA
/-! The laws vx_back, vx_callV, vx_callS, vx_callSW, vx_throw0, vx_throwS follow proofs of the library, with one case more: JvmDerived/Free/Laws.lean (Back.of_free), Shelf42/LK1.lean (callV, callS), Shelf/KitTraced.lean (throwNew0V, throwNewS). -/
/-- where a method has thrown q: the class by its name, the cell, what was written, the world -/
def vx_T (XC : String → State → State → Prop) (st : State) (q : Addr) (t : State) (mc ms : Nat) (free : Addr → Prop) : Prop :=
  ∃ (E : String) (ce : Cell) (L : List Loc), XC E st t ∧ t.heap[q]? = some ce ∧ ce.vm = .none ∧ st.vm.findClass E = some ce.cls ∧ st.WarmedH t.vm ∧ st.sameButNew ({ t with vm := st.vm } : State) L mc ms ∧ ∀ z ∈ L, free z.base
def vx_Q (Qc : Array Value → State → Outcome → State → Prop) (XC : String → State → State → Prop) (mc ms : Nat) (free : Addr → Prop) : Array Value → State → Outcome → State → Prop := fun a st o t =>
  (Qc a st o t ∧ ∃ L, FrameEnd st o t L mc ms ∧ ∀ q ∈ L, free q.base) ∨ ∃ q, o = .threw q ∧ vx_T XC st q t mc ms free
/-- a callee that returns or throws -/
def vx_Met (l : Launch) (y : MethodName) (ws : List Cond) (rm : Room) (Pc : Array Value → State → Prop) (Qc : Array Value → State → Outcome → State → Prop) (XC : String → State → State → Prop) (mc ms : Nat) (free : Addr → Prop) : Prop :=
  MetFree l y (headSpec ws rm) Pc (fun _ _ _ _ _ => True) (vx_Q Qc XC mc ms free)
def vx_Post (XC : String → State → State → Prop) (mc ms : Nat) (free : Addr → Prop) : Pt → Array Value → Addr → Pt → Prop := fun A a q B =>
  ∃ (g : JFrame) (mk : MethodId) (t : State) (L : List Loc) (E : String) (ce : Cell), B.U.heap = t.heap ∧ B.U.vm = t.vm ∧ XC E (A.U.calling g mk a) t ∧ t.heap[q]? = some ce ∧ ce.vm = .none ∧ A.U.vm.findClass E = some ce.cls ∧ B.locs = A.locs ++ L ∧ (∀ z ∈ L, free z.base) ∧ B.cells = A.cells + mc ∧ B.slots = A.slots + ms
def vx_Back (l : Launch) (R : Room) (p : Program) (e : Env) (below : List Frame) (s : State) (sargs : Array Value) (y : MethodName) (len W9 : Nat)
    (Pre : Pt → Array Value → Prop) (Post : Pt → Array Value → Option Value → Pt → Prop) (PostX : Pt → Array Value → Addr → Pt → Prop) : Prop :=
  ∀ (m : MethodId) (meth : Method) (c : Code) (A : Pt) (g : JFrame) (ig : Instr) (mk : MethodId) (a : Array Value),
    Stand p l e R s m sargs below meth c A.U A.locs A.cells A.slots → g.method = m → g.locals.size = c.maxLocals → decode c.code g.pc = .ok (ig, len) →
    2 * g.monitorRoom + (g.stack.map fun v => v.category).sum ≤ W9 → A.U.methodNamed? y = some mk → Pre A a →
    (∃ (v : Option Value) (B : Pt), Stand p l e R s m sargs below meth c B.U B.locs B.cells B.slots ∧ Post A a v B ∧
      Steps p.tables e below (doInvoke e (A.U.setTop g) [] mk a).1 (B.U.setTop { g with pc := g.pc + len, stack := v.toList ++ g.stack })) ∨
    (∃ (q : Addr) (B : Pt), Stand p l e R s m sargs below meth c B.U B.locs B.cells B.slots ∧ PostX A a q B ∧
      Steps p.tables e below (doInvoke e (A.U.setTop g) [] mk a).1 ((B.U.setTop g).pushFrame (.throwing q)))
section Payer
variable {l : Launch} {R : Room} {p : Program} {e : Env} {below : List Frame} {s : State} {sargs : Array Value} {y : MethodName} {len W9 : Nat}
theorem vx_back {ws : List Cond} {rm : Room} {Pc : Array Value → State → Prop} {Qc : Array Value → State → Outcome → State → Prop} {XC : String → State → State → Prop} {mc ms : Nat} {free : Addr → Prop} {bytes : ByteArray} {maxL : Nat} {ret : Option FieldType}
    (hM : vx_Met l y ws rm Pc Qc XC mc ms free) (hblind : FrameBlind Pc) (hrc : rm.cells = mc) (hrs : rm.slots = ms)
    (hframes : rm.frames + 1 ≤ R.frames) (hlocals : W9 + (maxL + 11) + rm.locals ≤ R.locals)
    (hws : ∀ w ∈ ws, ∀ a' U, s.WarmedH U.vm → w.before a' U = true) (hcode : Cond.code y bytes maxL ret ∈ ws) (hinit : ∀ a' U, s.WarmedH U.vm → (Cond.initialized y.cls).before a' U = true) :
    vx_Back l R p e below s sargs y len W9 (PreOf R mc ms Pc) (PostOf Qc mc ms free) (vx_Post XC mc ms free) := by
  intro m meth c A g ig mk a X hg hsize hdg hW hn hp
  have h1 : (headSpec ws rm).pre.before a A.U = true := atoms_intro fun w hw => hws w hw _ _ X.warmed
  have h2 : (Cond.code y bytes maxL ret).before a A.U = true := hws _ hcode _ _ X.warmed
  have h3 : (Cond.initialized y.cls).before a A.U = true := hinit _ _ X.warmed
  have h4 : A.cells + (headSpec ws rm).room.cells ≤ R.cells := by rw [show (headSpec ws rm).room.cells = mc from hrc]; exact hp.1
  have h5 : A.slots + (headSpec ws rm).room.slots ≤ R.slots := by rw [show (headSpec ws rm).room.slots = ms from hrs]; exact hp.2.1
  have hPc : Pc a (A.U.calling g mk a) := hblind _ _ _ _ hp.2.2
  obtain ⟨U, Ls, c0, s0⟩ := A
  dsimp only [Pt.U, Pt.locs, Pt.cells, Pt.slots] at h1 h2 h3 h4 h5 X hn hPc ⊢
  obtain ⟨methY, cY, hmY, hcY, -, hlY, -, -, -, -⟩ := Cond.code_spec hn h2
  obtain ⟨kY, hkY, -⟩ := className_of_methodNamed hn
  have hinitY : kY.init = .initialized := Cond.initialized_spec (findClass_of_methodNamed hn) hkY h3
  have h : At U g.method c below := by rw [hg]; exact X.here
  have hlocals9 : W9 + (maxL + 11) + (headSpec ws rm).room.locals ≤ R.locals := hlocals
  have happ : (headSpec ws rm).appliesLoose y e.platform (U.calling g mk a) = true :=
    Spec.appliesLoose_calling (g := g) h hdg hn hkY hinitY
      (X.room_calling (g := g) (R' := (headSpec ws rm).room) hsize hmY hcY hframes (by rw [hlY]; omega) h4 h5) h1
  obtain ⟨mid, hmid⟩ := h.above
  have hfr : (U.setTop g).frames = (.java g :: mid) ++ below := by rw [State.frames_setTop' g h.top, hmid]; rfl
  obtain ⟨o, s₂, hsteps, -, hend, hq⟩ := Steps.callFree hM p X.admits X.cas X.clock (acts := []) hfr happ hPc trivial
  have hq' : vx_Q Qc XC mc ms free a (U.calling g mk a) o s₂ := hq
  rw [State.frames_setTop' g h.top] at hend
  obtain ⟨g₀, hg0⟩ := Option.isSome_iff_exists.mp h.top
  obtain ⟨r, hr⟩ := State.topJava?_eq_some.mp hg0
  have hr' : (({ U with heap := s₂.heap, slotsUsed := s₂.slotsUsed } : State).setVm s₂.vm).frames = .java g₀ :: r := hr
  rcases hq' with ⟨hqc, L, hfe, hL⟩ | ⟨q, rfl, E, ce, L, hx, hce, hcv, hcl, hW₂, hsm, hL⟩
  · obtain ⟨⟨v, rfl⟩, hW₂, e2, q2, q3, q4, q5, q6⟩ := id hfe
    have e3 : s₂ = ({ (U.calling g mk a).setFrames s₂.frames with heap := s₂.heap, slotsUsed := s₂.slotsUsed } : State).setVm s₂.vm := by
      have : s₂ = ({ s₂ with vm := (U.calling g mk a).vm } : State).setVm s₂.vm := rfl
      rw [e2] at this
      exact this
    obtain ⟨c₂, i₂, len₂, hc₂, hd₂, hf₂⟩ := hend
    have hW' : U.WarmedH s₂.vm := hW₂
    have hcc : c₂ = c := by
      have h1 : s₂.code? g.method = U.code? g.method := by
        rw [State.code?_eq, State.code?_eq, hW'.alike.method?]
      exact Option.some.inj (hc₂.symm.trans (h1.trans h.code))
    subst hcc
    have hlen : len₂ = len := by rw [hdg] at hd₂; cases hd₂; rfl
    subst hlen
    have hs₂ : s₂ = (({ U with heap := s₂.heap, slotsUsed := s₂.slotsUsed } : State).setVm s₂.vm).setTop { g with pc := g.pc + len₂, stack := v.toList ++ g.stack } := by
      refine e3.trans ?_
      rw [hf₂, State.calling_eq h.top, State.setFrames_setFrames, State.setTop_of_frames _ hr', hr]
      rfl
    have hsame : U.sameButNew ({ U with heap := s₂.heap, slotsUsed := s₂.slotsUsed } : State) L mc ms := by
      refine ⟨?_, q2, q3, q4, q5, q6⟩
      obtain ⟨t, ht, -⟩ := State.frames_cons hr
      show ({ U with heap := s₂.heap, slotsUsed := s₂.slotsUsed } : State) = { U.setFrames U.frames with heap := s₂.heap, slotsUsed := s₂.slotsUsed }
      rw [State.setFrames_self ht]
    subst hg
    refine Or.inl ⟨v, ⟨(({ U with heap := s₂.heap, slotsUsed := s₂.slotsUsed } : State).setVm s₂.vm), Ls ++ L, c0 + mc, s0 + ms⟩,
      ⟨X.admits, X.cas, X.clock, X.frames, X.room, X.hears, X.method, X.code, (X.here.setHeapUsed s₂.heap s₂.slotsUsed).setVm hW'.alike, X.tail, State.WarmedH.trans X.warmed hW', X.limits, X.bytes, X.same.trans (hsame.setVm s.vm)⟩,
      ⟨g, mk, s₂, L, rfl, rfl, hqc, rfl, hL, rfl, rfl⟩, ?_⟩
    show Steps p.tables e below _ ((({ U with heap := s₂.heap, slotsUsed := s₂.slotsUsed } : State).setVm s₂.vm).setTop { g with pc := g.pc + len₂, stack := v.toList ++ g.stack })
    rw [← hs₂]
    exact hsteps
  · obtain ⟨e2, q2, q3, q4, q5, q6⟩ := id hsm
    have e3 : s₂ = ({ (U.calling g mk a).setFrames s₂.frames with heap := s₂.heap, slotsUsed := s₂.slotsUsed } : State).setVm s₂.vm := by
      have : s₂ = ({ s₂ with vm := (U.calling g mk a).vm } : State).setVm s₂.vm := rfl
      rw [e2] at this
      exact this
    have hf₂ : s₂.frames = .throwing q :: .java g :: U.frames.tail := hend
    have hW' : U.WarmedH s₂.vm := hW₂
    have hs₂ : s₂ = ((({ U with heap := s₂.heap, slotsUsed := s₂.slotsUsed } : State).setVm s₂.vm).setTop g).pushFrame (.throwing q) := by
      refine e3.trans ?_
      rw [hf₂, State.calling_eq h.top, State.setFrames_setFrames, State.pushFrame, State.frames_setTop _ hr', State.setTop_of_frames _ hr', State.setFrames_setFrames, hr]
      rfl
    have hsame : U.sameButNew ({ U with heap := s₂.heap, slotsUsed := s₂.slotsUsed } : State) L mc ms := by
      refine ⟨?_, q2, q3, q4, q5, q6⟩
      obtain ⟨t, ht, -⟩ := State.frames_cons hr
      show ({ U with heap := s₂.heap, slotsUsed := s₂.slotsUsed } : State) = { U.setFrames U.frames with heap := s₂.heap, slotsUsed := s₂.slotsUsed }
      rw [State.setFrames_self ht]
    subst hg
    refine Or.inr ⟨q, ⟨(({ U with heap := s₂.heap, slotsUsed := s₂.slotsUsed } : State).setVm s₂.vm), Ls ++ L, c0 + mc, s0 + ms⟩,
      ⟨X.admits, X.cas, X.clock, X.frames, X.room, X.hears, X.method, X.code, (X.here.setHeapUsed s₂.heap s₂.slotsUsed).setVm hW'.alike, X.tail, State.WarmedH.trans X.warmed hW', X.limits, X.bytes, X.same.trans (hsame.setVm s.vm)⟩,
      ⟨g, mk, s₂, L, E, ce, rfl, rfl, hx, hce, hcv, hcl, rfl, hL, rfl, rfl⟩, ?_⟩
    show Steps p.tables e below _ (((({ U with heap := s₂.heap, slotsUsed := s₂.slotsUsed } : State).setVm s₂.vm).setTop g).pushFrame (.throwing q))
    rw [← hs₂]
    exact hsteps
end Payer
section Calls
variable {p : Program} {l : Launch} {e : Env} {R : Room} {s : State} {m : MethodId} {args : Array Value} {below : List Frame} {meth : Method} {c : Code} {T : State} {locs : List Loc} {cells slots : Nat}
theorem vx_callV (X : Stand p l e R s m args below meth c T locs cells slots) (hexec : p.tables.exec = Jvm.exec) {own C : String} {index : Nat} {y : MethodName} {bytes : ByteArray} {maxL : Nat} {ret : Option FieldType}
    (hown : s.vm.findClass own = some m.cls) (hlink : (Cond.methodLink own index y).before args s = true) (hinst : (Cond.instanceMethod y).before args s = true) (hsel : (Cond.selects C y y).before args s = true)
    (hcode : (Cond.code y bytes maxL ret).before args s = true) (hy : y.cls ≠ "java/lang/invoke/MethodHandle" ∧ y.cls ≠ "java/lang/invoke/VarHandle")
    {W9 : Nat} {Pre : Pt → Array Value → Prop} {Post : Pt → Array Value → Option Value → Pt → Prop} {PostX : Pt → Array Value → Addr → Pt → Prop} (hK : vx_Back l R p e below s args y 3 W9 Pre Post PostX)
    {b : Addr} {cellB : Cell} (hcell : T.heap[b]? = some cellB) (hobj : cellB.vm.isStatics = false) (hcls : s.vm.findClass C = some cellB.cls)
    {g : JFrame} (hg : g.method = m) (hsize : g.locals.size = c.maxLocals) {argsL rest : List Value} (hlen : ∀ sig, parseMethodDescriptor y.desc = some sig → argsL.length = sig.parameters.length)
    (hstack : g.stack = argsL.reverse ++ .ref b :: rest) (hW : 2 * g.monitorRoom + (rest.map fun v => v.category).sum ≤ W9) (hdg : decode c.code g.pc = .ok (.invokevirtual index, 3))
    (hpre : ∀ vm₁, s.WarmedH vm₁ → Pre ⟨T.setVm vm₁, locs, cells, slots⟩ (Value.ref b :: argsL).toArray) :
    (∃ (v : Option Value) (vm₁ : Vm) (B : Pt), s.WarmedH vm₁ ∧ Stand p l e R s m args below meth c B.U B.locs B.cells B.slots ∧ Post ⟨T.setVm vm₁, locs, cells, slots⟩ (Value.ref b :: argsL).toArray v B ∧
      ∀ target, Steps p.tables e below (B.U.setTop { g with pc := g.pc + 3, stack := v.toList ++ rest }) target → Steps p.tables e below (T.setTop g) target) ∨
    (∃ (q : Addr) (vm₁ : Vm) (B : Pt), s.WarmedH vm₁ ∧ Stand p l e R s m args below meth c B.U B.locs B.cells B.slots ∧ PostX ⟨T.setVm vm₁, locs, cells, slots⟩ (Value.ref b :: argsL).toArray q B ∧
      Steps p.tables e below (T.setTop g) ((B.U.setTop { g with stack := rest }).pushFrame (.throwing q))) := by
  obtain ⟨mk, methM, hnamed, hmethM, hstM, habM⟩ := Cond.instanceMethod_spec hinst
  obtain ⟨methM', cM, hmethM', -, -, -, -, -, -, hsigM⟩ := Cond.code_spec hnamed hcode
  cases hmethM.symm.trans hmethM'
  obtain ⟨c2, r2, m2, q1, q2, q3, q4, kP, hkP, hkPi⟩ := Cond.selects_spec hsel
  cases hcls.symm.trans q1
  cases (State.methodFound?_of_named hnamed hy).symm.trans q2
  cases hnamed.symm.trans q3
  have hselP : selectMethod e.platform s.vm cellB.cls mk = .method mk := by rw [Launch.admits_selectMethod X.admits]; exact q4
  obtain ⟨vm₁, X₁, hstep₁⟩ := X.invokevirtual hexec hown hlink hnamed hmethM hstM hkP hkPi hy (a := b) (cell := cellB) hcell
    (fun z h => by rw [h] at hobj; cases hobj) hselP hmethM habM hkP hkPi (g := g) hg (argsL := argsL) (rest := rest) (hlen _ hsigM) hstack hdg
  rcases hK m meth c ⟨T.setVm vm₁, locs, cells, slots⟩ { g with stack := rest } (.invokevirtual index) mk (Value.ref b :: argsL).toArray X₁ hg hsize hdg hW (X₁.named hnamed) (hpre vm₁ X₁.warmed) with ⟨v, B, X', hpost, hsteps⟩ | ⟨q, B, X', hpost, hsteps⟩
  · exact Or.inl ⟨v, vm₁, B, X₁.warmed, X', hpost, fun target h => hstep₁ _ fun acts => by rw [doInvoke_state]; exact hsteps.trans h⟩
  · exact Or.inr ⟨q, vm₁, B, X₁.warmed, X', hpost, hstep₁ _ fun acts => by rw [doInvoke_state]; exact hsteps⟩
theorem vx_callS (X : Stand p l e R s m args below meth c T locs cells slots) (hexec : p.tables.exec = Jvm.exec) {own : String} {index : Nat} {y : MethodName} {bytes : ByteArray} {maxL : Nat} {ret : Option FieldType}
    (hown : s.vm.findClass own = some m.cls) (hlink : (Cond.methodLink own index y).before args s = true) (hstat : (Cond.static y).before args s = true) (hinit : (Cond.initialized y.cls).before args s = true)
    (hcode : (Cond.code y bytes maxL ret).before args s = true) (hy : y.cls ≠ "java/lang/invoke/MethodHandle" ∧ y.cls ≠ "java/lang/invoke/VarHandle")
    {W9 : Nat} {Pre : Pt → Array Value → Prop} {Post : Pt → Array Value → Option Value → Pt → Prop} {PostX : Pt → Array Value → Addr → Pt → Prop} (hK : vx_Back l R p e below s args y 3 W9 Pre Post PostX)
    {g : JFrame} (hg : g.method = m) (hsize : g.locals.size = c.maxLocals) {argsL rest : List Value} (hlen : ∀ sig, parseMethodDescriptor y.desc = some sig → argsL.length = sig.parameters.length)
    (hstack : g.stack = argsL.reverse ++ rest) (hW : 2 * g.monitorRoom + (rest.map fun v => v.category).sum ≤ W9) (hdg : decode c.code g.pc = .ok (.invokestatic index, 3))
    (hpre : ∀ vm₁, s.WarmedH vm₁ → Pre ⟨T.setVm vm₁, locs, cells, slots⟩ argsL.toArray) :
    (∃ (v : Option Value) (vm₁ : Vm) (B : Pt), s.WarmedH vm₁ ∧ Stand p l e R s m args below meth c B.U B.locs B.cells B.slots ∧ Post ⟨T.setVm vm₁, locs, cells, slots⟩ argsL.toArray v B ∧
      ∀ target, Steps p.tables e below (B.U.setTop { g with pc := g.pc + 3, stack := v.toList ++ rest }) target → Steps p.tables e below (T.setTop g) target) ∨
    (∃ (q : Addr) (vm₁ : Vm) (B : Pt), s.WarmedH vm₁ ∧ Stand p l e R s m args below meth c B.U B.locs B.cells B.slots ∧ PostX ⟨T.setVm vm₁, locs, cells, slots⟩ argsL.toArray q B ∧
      Steps p.tables e below (T.setTop g) ((B.U.setTop { g with stack := rest }).pushFrame (.throwing q))) := by
  obtain ⟨mk, hnamed⟩ := Cond.code_named hcode
  obtain ⟨methM, cM, hmethM, -, -, -, -, -, -, hsigM⟩ := Cond.code_spec hnamed hcode
  have hstatic : methM.isStatic = true := Cond.static_spec hnamed hmethM hstat
  obtain ⟨kP, hkP, -⟩ := className_of_methodNamed hnamed
  have hinitP : kP.init = .initialized := Cond.initialized_spec (findClass_of_methodNamed hnamed) hkP hinit
  obtain ⟨vm₁, X₁, hstep₁⟩ := X.invokestatic hexec hown hlink hnamed hmethM hstatic hkP hinitP hy (g := g) hg (argsL := argsL) (rest := rest) (hlen _ hsigM) hstack hdg
  rcases hK m meth c ⟨T.setVm vm₁, locs, cells, slots⟩ { g with stack := rest } (.invokestatic index) mk argsL.toArray X₁ hg hsize hdg hW (X₁.named hnamed) (hpre vm₁ X₁.warmed) with ⟨v, B, X', hpost, hsteps⟩ | ⟨q, B, X', hpost, hsteps⟩
  · exact Or.inl ⟨v, vm₁, B, X₁.warmed, X', hpost, fun target h => hstep₁ _ fun acts => by rw [doInvoke_state]; exact hsteps.trans h⟩
  · exact Or.inr ⟨q, vm₁, B, X₁.warmed, X', hpost, hstep₁ _ fun acts => by rw [doInvoke_state]; exact hsteps⟩
end Calls
theorem vx_cls {s : State} {T : State} {vm₁ : Vm} {E : String} {k : ClassId} (hW : s.WarmedH vm₁) (h : (T.setVm vm₁).vm.findClass E = some k) : s.vm.findClass E = some k := by
  have h1 : vm₁.findClass E = some k := h
  rw [hW.alike.findClass] at h1
  exact h1
/-- the method's frame g, with q thrown over it -/
def vx_W (p : Program) (l : Launch) (e : Env) (R : Room) (s : State) (m : MethodId) (args : Array Value) (below : List Frame) (meth : Method) (c : Code) (H : Heap) (locs : List Loc) (cells slots : Nat) (Q : State → Prop) (g : JFrame) (q : Addr) : Prop :=
  ∀ T : State, T.heap = H → Stand p l e R s m args below meth c T locs cells slots → ∃ t, Steps p.tables e below ((T.setTop g).pushFrame (.throwing q)) t ∧ Q t
def vx_Run (p : Program) (l : Launch) (e : Env) (R : Room) (s : State) (m : MethodId) (args : Array Value) (below : List Frame) (meth : Method) (c : Code) (H : Heap) (locs : List Loc) (cells slots mc ms : Nat) (g : JFrame) (rest : List Value) (Qa : State → Outcome → State → Prop) (XC : String → State → State → Prop) (free : Addr → Prop) : Prop :=
  ∀ T : State, T.heap = H → Stand p l e R s m args below meth c T locs cells slots →
    (∃ (v : Option Value) (st₀ t T' : State) (L : List Loc), st₀.heap = H ∧ Stand p l e R s m args below meth c T' (locs ++ L) (cells + mc) (slots + ms) ∧ (∀ q ∈ L, free q.base) ∧ T'.heap = t.heap ∧ T'.vm = t.vm ∧ Qa st₀ (.returned v) t ∧
      Goes p e below T g T' { g with pc := g.pc + 3, stack := v.toList ++ rest }) ∨
    (∃ (q : Addr) (st₀ t T' : State) (L : List Loc) (E : String) (ce : Cell), st₀.heap = H ∧ Stand p l e R s m args below meth c T' (locs ++ L) (cells + mc) (slots + ms) ∧ (∀ z ∈ L, free z.base) ∧ T'.heap = t.heap ∧ T'.vm = t.vm ∧ XC E st₀ t ∧ t.heap[q]? = some ce ∧ ce.vm = .none ∧ s.vm.findClass E = some ce.cls ∧
      Steps p.tables e below (T.setTop g) ((T'.setTop { g with stack := rest }).pushFrame (.throwing q)))
def vx_X {S : Type} (px : S → Prop) (B : String → S → State → Prop) (A : Nat → Prop) : String → State → State → Prop := fun E st t => ∃ u : S, px u ∧ B E u t ∧ va_F A st t
section Runs
variable {p : Program} {l : Launch} {e : Env} {R : Room} {s : State} {m : MethodId} {args : Array Value} {below : List Frame} {meth : Method} {c : Code} {H : Heap} {locs : List Loc} {cells slots : Nat}
variable {y : MethodName} {bytes cc : ByteArray} {maxL nL mc ms n index : Nat} {ret : Option FieldType} {ws : List Cond} {rm : Room} {Pc : Array Value → State → Prop} {Qc : Array Value → State → Outcome → State → Prop} {XC : String → State → State → Prop} {free : Addr → Prop} {Ts : List Cond} {own C : String} {b : Addr} {As rest : List Value} {g : JFrame}
theorem vx_callBack (cb : CallB R s args own index y bytes maxL ret ws rm mc ms n) (hM : vx_Met l y ws rm Pc Qc XC mc ms free) (hbl : FrameBlind Pc) : vx_Back l R p e below s args y 3 8 (PreOf R mc ms Pc) (PostOf Qc mc ms free) (vx_Post XC mc ms free) := by
  obtain ⟨hrc, hrs, hfr, hlo, hws, hcw, -, hini, -⟩ := cb
  exact vx_back (bytes := bytes) (maxL := maxL) (ret := ret) hM hbl hrc hrs hfr hlo hws hcw (fun a' U hW => word_at hW (Or.inl (by first | rfl | simp [Cond.onTables, Cond.keeps, Cond.steady])) hini)
theorem vx_runV (S : CallFix p m c cc nL s args Ts own) (hM : vx_Met l y ws rm Pc Qc XC mc ms free) (cw : CallW R s args own C index y bytes maxL ret ws rm mc ms n) (hp : PreV s H C b Pc As)
    (hg : g.method = m) (hn : As.length = n) (hsize : g.locals.size = nL) (hstack : g.stack = As.reverse ++ .ref b :: rest) (hW : 2 * g.monitorRoom + (rest.map fun v => v.category).sum ≤ 8) (hdg : decode cc g.pc = .ok (.invokevirtual index, 3)) (hf : cells + mc ≤ R.cells ∧ slots + ms ≤ R.slots) :
    vx_Run p l e R s m args below meth c H locs cells slots mc ms g rest (Qc (Value.ref b :: As).toArray) XC free := by
  have hK : vx_Back l R p e below s args y 3 8 (PreOf R mc ms Pc) (PostOf Qc mc ms free) (vx_Post XC mc ms free) := vx_callBack cw.1 hM hp.1
  obtain ⟨⟨-, -, -, -, -, -, hcode, -, hy, hlen, hl⟩, hin, hse⟩ := cw
  obtain ⟨hx, hb, hml, ho, -⟩ := S
  obtain ⟨-, ⟨cellB, hcB, hoB, hclB⟩, hPc⟩ := hp
  intro T hT X
  rcases vx_callV X hx (C := C) (bytes := bytes) (maxL := maxL) (ret := ret) ho hl hin hse hcode hy hK (by rw [hT]; exact hcB) hoB hclB hg (hsize.trans hml.symm) (argsL := As) (rest := rest) (fun sig h => hn.trans (hlen sig h)) hstack hW (by rw [hb]; exact hdg)
    (fun vm₁ hW₁ => ⟨hf.1, hf.2, hPc (T.setVm vm₁) hT hW₁⟩) with ⟨v, vm₁, ⟨U', l2, c2, s2⟩, hW₁, X', ⟨g', mk, t, L, e1, e2, hq, h1, hL, h2, h3⟩, st⟩ | ⟨q, vm₁, ⟨U', l2, c2, s2⟩, hW₁, X', ⟨g', mk, t, L, E, ce, e1, e2, hq, hce, hcv, hcl, h1, hL, h2, h3⟩, st⟩
  · dsimp only [Pt.U, Pt.locs, Pt.cells, Pt.slots] at X' e1 e2 h1 h2 h3 st
    subst h1; subst h2; subst h3
    exact Or.inl ⟨v, (T.setVm vm₁).calling g' mk (Value.ref b :: As).toArray, t, U', L, hT, X', hL, e1, e2, hq, st⟩
  · dsimp only [Pt.U, Pt.locs, Pt.cells, Pt.slots] at X' e1 e2 h1 h2 h3 st hcl
    subst h1; subst h2; subst h3
    exact Or.inr ⟨q, (T.setVm vm₁).calling g' mk (Value.ref b :: As).toArray, t, U', L, E, ce, hT, X', hL, e1, e2, hq, hce, hcv, vx_cls hW₁ hcl, st⟩
theorem vx_runS (S : CallFix p m c cc nL s args Ts own) (hM : vx_Met l y ws rm Pc Qc XC mc ms free) (cw : CallB R s args own index y bytes maxL ret ws rm mc ms n ∧ (Cond.static y).before args s = true) (hp : PreS s H Pc As)
    (hg : g.method = m) (hn : As.length = n) (hsize : g.locals.size = nL) (hstack : g.stack = As.reverse ++ rest) (hW : 2 * g.monitorRoom + (rest.map fun v => v.category).sum ≤ 8) (hdg : decode cc g.pc = .ok (.invokestatic index, 3)) (hf : cells + mc ≤ R.cells ∧ slots + ms ≤ R.slots) :
    vx_Run p l e R s m args below meth c H locs cells slots mc ms g rest (Qc As.toArray) XC free := by
  have hK : vx_Back l R p e below s args y 3 8 (PreOf R mc ms Pc) (PostOf Qc mc ms free) (vx_Post XC mc ms free) := vx_callBack cw.1 hM hp.1
  obtain ⟨⟨-, -, -, -, -, -, hcode, hini, hy, hlen, hl⟩, hstt⟩ := cw
  obtain ⟨hx, hb, hml, ho, -⟩ := S
  intro T hT X
  rcases vx_callS X hx (bytes := bytes) (maxL := maxL) (ret := ret) ho hl hstt hini hcode hy hK hg (hsize.trans hml.symm) (argsL := As) (rest := rest) (fun sig h => hn.trans (hlen sig h)) hstack hW (by rw [hb]; exact hdg)
    (fun vm₁ hW₁ => ⟨hf.1, hf.2, hp.2 (T.setVm vm₁) hT hW₁⟩) with ⟨v, vm₁, ⟨U', l2, c2, s2⟩, hW₁, X', ⟨g', mk, t, L, e1, e2, hq, h1, hL, h2, h3⟩, st⟩ | ⟨q, vm₁, ⟨U', l2, c2, s2⟩, hW₁, X', ⟨g', mk, t, L, E, ce, e1, e2, hq, hce, hcv, hcl, h1, hL, h2, h3⟩, st⟩
  · dsimp only [Pt.U, Pt.locs, Pt.cells, Pt.slots] at X' e1 e2 h1 h2 h3 st
    subst h1; subst h2; subst h3
    exact Or.inl ⟨v, (T.setVm vm₁).calling g' mk As.toArray, t, U', L, hT, X', hL, e1, e2, hq, st⟩
  · dsimp only [Pt.U, Pt.locs, Pt.cells, Pt.slots] at X' e1 e2 h1 h2 h3 st hcl
    subst h1; subst h2; subst h3
    exact Or.inr ⟨q, (T.setVm vm₁).calling g' mk As.toArray, t, U', L, E, ce, hT, X', hL, e1, e2, hq, hce, hcv, vx_cls hW₁ hcl, st⟩
end Runs
section Rows
variable {p : Program} {l : Launch} {e : Env} {R : Room} {s : State} {m : MethodId} {args : Array Value} {below : List Frame} {meth : Method} {c : Code} {H : Heap} {locs : List Loc} {cells slots : Nat} {Q : State → Prop}
variable {mc ms : Nat} {free : Addr → Prop} {A0 A1 : Nat → Prop} {H0 : Heap} {a : Array Value} {pc : Nat} {ls : Array Slot} {st0 rest : List Value}
theorem vx_keep {st₀ t T' : State} {L : List Loc} (h0 : st₀.heap = H) (e1 : T'.heap = t.heap) (hS : va_S A0 H0 H locs) (hA : ∀ q, q < H.size → A1 q → A0 q) (hf : ∀ q, free q → A0 q) (hL : ∀ q ∈ L, free q.base) (hF : va_F A1 st₀ t) :
    H.size ≤ T'.heap.size ∧ (∀ q : Nat, q < H.size → ¬ A1 q → T'.heap[q]? = H[q]?) ∧ va_S A0 H0 T'.heap (locs ++ L) := by
  obtain ⟨hz, hk⟩ := hF
  rw [h0] at hz hk
  exact ⟨by rw [e1]; exact hz, fun q h1 h2 => by rw [e1]; exact hk q h1 h2,
    ⟨Nat.le_trans hS.1 (by rw [e1]; exact hz), fun q h1 h2 => by rw [e1, hk q (Nat.lt_of_lt_of_le h1 hS.1) (fun z => h2 (hA q (Nat.lt_of_lt_of_le h1 hS.1) z))]; exact hS.2.1 q h1 h2, fun q hq => by
      rcases List.mem_append.mp hq with h | h
      · exact hS.2.2 q h
      · exact hf _ (hL q h)⟩⟩
theorem vx_calli {S SX : Type} {post : Int32 → S → Prop} {px : SX → Prop} {B : S → State → Prop} {BX : String → SX → State → Prop} {AX : Nat → Prop} (hr : vx_Run p l e R s m args below meth c H locs cells slots mc ms (F0 m pc ls st0) rest (va_Qi post B A1 a) (vx_X px BX AX) free) (hS : va_S A0 H0 H locs) (hA : ∀ q, q < H.size → A1 q → A0 q) (hf : ∀ q, free q → A0 q) (hAX : ∀ q, q < H.size → AX q → A0 q)
    (kx : ∀ (E : String) (ce : Cell) (q9 : Addr) (u : SX) (t : State) (H1 : Heap) (locs1 : List Loc), t.heap = H1 → s.vm.Alike t.vm → px u → BX E u t → H.size ≤ H1.size → (∀ q : Nat, q < H.size → ¬ AX q → H1[q]? = H[q]?) → va_S A0 H0 H1 locs1 → H1[q9]? = some ce → ce.vm = .none → s.vm.findClass E = some ce.cls → vx_W p l e R s m args below meth c H1 locs1 (cells + mc) (slots + ms) Q (F0 m pc ls rest) q9)
    (kk : ∀ (r : Int32) (u : S) (t : State) (H1 : Heap) (locs1 : List Loc), t.heap = H1 → s.vm.Alike t.vm → post r u → B u t → H.size ≤ H1.size → (∀ q : Nat, q < H.size → ¬ A1 q → H1[q]? = H[q]?) → va_S A0 H0 H1 locs1 → W p l e R s m args below meth c H1 locs1 (cells + mc) (slots + ms) Q (F0 m (pc + 3) ls (.int r :: rest))) : W p l e R s m args below meth c H locs cells slots Q (F0 m pc ls st0) := by
  intro T hT X
  rcases hr T hT X with ⟨v, st₀, t, T', L, h0, X', hL, e1, e2, ⟨⟨r, u, hv, hp, hb⟩, hF⟩, st⟩ | ⟨q, st₀, t, T', L, E, ce, h0, X', hL, e1, e2, ⟨u, hp, hb, hF⟩, hce, hcv, hcl, st⟩
  · cases hv
    obtain ⟨k1, k2, k3⟩ := vx_keep h0 e1 hS hA hf hL hF
    obtain ⟨t2, a1, b1⟩ := kk r u t T'.heap (locs ++ L) e1.symm (by rw [← e2]; exact X'.warmed.alike) hp hb k1 k2 k3 T' rfl X'
    exact ⟨t2, st t2 a1, b1⟩
  · obtain ⟨k1, k2, k3⟩ := vx_keep h0 e1 hS hAX hf hL hF
    obtain ⟨t2, a1, b1⟩ := kx E ce q u t T'.heap (locs ++ L) e1.symm (by rw [← e2]; exact X'.warmed.alike) hp hb k1 k2 k3 (by rw [e1]; exact hce) hcv hcl T' rfl X'
    exact ⟨t2, st.trans a1, b1⟩
theorem vx_calll {S SX : Type} {post : Int64 → S → Prop} {px : SX → Prop} {B : S → State → Prop} {BX : String → SX → State → Prop} {AX : Nat → Prop} (hr : vx_Run p l e R s m args below meth c H locs cells slots mc ms (F0 m pc ls st0) rest (va_Ql post B A1 a) (vx_X px BX AX) free) (hS : va_S A0 H0 H locs) (hA : ∀ q, q < H.size → A1 q → A0 q) (hf : ∀ q, free q → A0 q) (hAX : ∀ q, q < H.size → AX q → A0 q)
    (kx : ∀ (E : String) (ce : Cell) (q9 : Addr) (u : SX) (t : State) (H1 : Heap) (locs1 : List Loc), t.heap = H1 → s.vm.Alike t.vm → px u → BX E u t → H.size ≤ H1.size → (∀ q : Nat, q < H.size → ¬ AX q → H1[q]? = H[q]?) → va_S A0 H0 H1 locs1 → H1[q9]? = some ce → ce.vm = .none → s.vm.findClass E = some ce.cls → vx_W p l e R s m args below meth c H1 locs1 (cells + mc) (slots + ms) Q (F0 m pc ls rest) q9)
    (kk : ∀ (r : Int64) (u : S) (t : State) (H1 : Heap) (locs1 : List Loc), t.heap = H1 → s.vm.Alike t.vm → post r u → B u t → H.size ≤ H1.size → (∀ q : Nat, q < H.size → ¬ A1 q → H1[q]? = H[q]?) → va_S A0 H0 H1 locs1 → W p l e R s m args below meth c H1 locs1 (cells + mc) (slots + ms) Q (F0 m (pc + 3) ls (.long r :: rest))) : W p l e R s m args below meth c H locs cells slots Q (F0 m pc ls st0) := by
  intro T hT X
  rcases hr T hT X with ⟨v, st₀, t, T', L, h0, X', hL, e1, e2, ⟨⟨r, u, hv, hp, hb⟩, hF⟩, st⟩ | ⟨q, st₀, t, T', L, E, ce, h0, X', hL, e1, e2, ⟨u, hp, hb, hF⟩, hce, hcv, hcl, st⟩
  · cases hv
    obtain ⟨k1, k2, k3⟩ := vx_keep h0 e1 hS hA hf hL hF
    obtain ⟨t2, a1, b1⟩ := kk r u t T'.heap (locs ++ L) e1.symm (by rw [← e2]; exact X'.warmed.alike) hp hb k1 k2 k3 T' rfl X'
    exact ⟨t2, st t2 a1, b1⟩
  · obtain ⟨k1, k2, k3⟩ := vx_keep h0 e1 hS hAX hf hL hF
    obtain ⟨t2, a1, b1⟩ := kx E ce q u t T'.heap (locs ++ L) e1.symm (by rw [← e2]; exact X'.warmed.alike) hp hb k1 k2 k3 (by rw [e1]; exact hce) hcv hcl T' rfl X'
    exact ⟨t2, st.trans a1, b1⟩
theorem vx_callf {S SX : Type} {post : UInt32 → S → Prop} {px : SX → Prop} {B : S → State → Prop} {BX : String → SX → State → Prop} {AX : Nat → Prop} (hr : vx_Run p l e R s m args below meth c H locs cells slots mc ms (F0 m pc ls st0) rest (va_Qf post B A1 a) (vx_X px BX AX) free) (hS : va_S A0 H0 H locs) (hA : ∀ q, q < H.size → A1 q → A0 q) (hf : ∀ q, free q → A0 q) (hAX : ∀ q, q < H.size → AX q → A0 q)
    (kx : ∀ (E : String) (ce : Cell) (q9 : Addr) (u : SX) (t : State) (H1 : Heap) (locs1 : List Loc), t.heap = H1 → s.vm.Alike t.vm → px u → BX E u t → H.size ≤ H1.size → (∀ q : Nat, q < H.size → ¬ AX q → H1[q]? = H[q]?) → va_S A0 H0 H1 locs1 → H1[q9]? = some ce → ce.vm = .none → s.vm.findClass E = some ce.cls → vx_W p l e R s m args below meth c H1 locs1 (cells + mc) (slots + ms) Q (F0 m pc ls rest) q9)
    (kk : ∀ (r : UInt32) (u : S) (t : State) (H1 : Heap) (locs1 : List Loc), t.heap = H1 → s.vm.Alike t.vm → post r u → B u t → H.size ≤ H1.size → (∀ q : Nat, q < H.size → ¬ A1 q → H1[q]? = H[q]?) → va_S A0 H0 H1 locs1 → W p l e R s m args below meth c H1 locs1 (cells + mc) (slots + ms) Q (F0 m (pc + 3) ls (.float r :: rest))) : W p l e R s m args below meth c H locs cells slots Q (F0 m pc ls st0) := by
  intro T hT X
  rcases hr T hT X with ⟨v, st₀, t, T', L, h0, X', hL, e1, e2, ⟨⟨r, u, hv, hp, hb⟩, hF⟩, st⟩ | ⟨q, st₀, t, T', L, E, ce, h0, X', hL, e1, e2, ⟨u, hp, hb, hF⟩, hce, hcv, hcl, st⟩
  · cases hv
    obtain ⟨k1, k2, k3⟩ := vx_keep h0 e1 hS hA hf hL hF
    obtain ⟨t2, a1, b1⟩ := kk r u t T'.heap (locs ++ L) e1.symm (by rw [← e2]; exact X'.warmed.alike) hp hb k1 k2 k3 T' rfl X'
    exact ⟨t2, st t2 a1, b1⟩
  · obtain ⟨k1, k2, k3⟩ := vx_keep h0 e1 hS hAX hf hL hF
    obtain ⟨t2, a1, b1⟩ := kx E ce q u t T'.heap (locs ++ L) e1.symm (by rw [← e2]; exact X'.warmed.alike) hp hb k1 k2 k3 (by rw [e1]; exact hce) hcv hcl T' rfl X'
    exact ⟨t2, st.trans a1, b1⟩
theorem vx_calld {S SX : Type} {post : UInt64 → S → Prop} {px : SX → Prop} {B : S → State → Prop} {BX : String → SX → State → Prop} {AX : Nat → Prop} (hr : vx_Run p l e R s m args below meth c H locs cells slots mc ms (F0 m pc ls st0) rest (va_Qd post B A1 a) (vx_X px BX AX) free) (hS : va_S A0 H0 H locs) (hA : ∀ q, q < H.size → A1 q → A0 q) (hf : ∀ q, free q → A0 q) (hAX : ∀ q, q < H.size → AX q → A0 q)
    (kx : ∀ (E : String) (ce : Cell) (q9 : Addr) (u : SX) (t : State) (H1 : Heap) (locs1 : List Loc), t.heap = H1 → s.vm.Alike t.vm → px u → BX E u t → H.size ≤ H1.size → (∀ q : Nat, q < H.size → ¬ AX q → H1[q]? = H[q]?) → va_S A0 H0 H1 locs1 → H1[q9]? = some ce → ce.vm = .none → s.vm.findClass E = some ce.cls → vx_W p l e R s m args below meth c H1 locs1 (cells + mc) (slots + ms) Q (F0 m pc ls rest) q9)
    (kk : ∀ (r : UInt64) (u : S) (t : State) (H1 : Heap) (locs1 : List Loc), t.heap = H1 → s.vm.Alike t.vm → post r u → B u t → H.size ≤ H1.size → (∀ q : Nat, q < H.size → ¬ A1 q → H1[q]? = H[q]?) → va_S A0 H0 H1 locs1 → W p l e R s m args below meth c H1 locs1 (cells + mc) (slots + ms) Q (F0 m (pc + 3) ls (.double r :: rest))) : W p l e R s m args below meth c H locs cells slots Q (F0 m pc ls st0) := by
  intro T hT X
  rcases hr T hT X with ⟨v, st₀, t, T', L, h0, X', hL, e1, e2, ⟨⟨r, u, hv, hp, hb⟩, hF⟩, st⟩ | ⟨q, st₀, t, T', L, E, ce, h0, X', hL, e1, e2, ⟨u, hp, hb, hF⟩, hce, hcv, hcl, st⟩
  · cases hv
    obtain ⟨k1, k2, k3⟩ := vx_keep h0 e1 hS hA hf hL hF
    obtain ⟨t2, a1, b1⟩ := kk r u t T'.heap (locs ++ L) e1.symm (by rw [← e2]; exact X'.warmed.alike) hp hb k1 k2 k3 T' rfl X'
    exact ⟨t2, st t2 a1, b1⟩
  · obtain ⟨k1, k2, k3⟩ := vx_keep h0 e1 hS hAX hf hL hF
    obtain ⟨t2, a1, b1⟩ := kx E ce q u t T'.heap (locs ++ L) e1.symm (by rw [← e2]; exact X'.warmed.alike) hp hb k1 k2 k3 (by rw [e1]; exact hce) hcv hcl T' rfl X'
    exact ⟨t2, st.trans a1, b1⟩
theorem vx_callv {S SX : Type} {post : S → Prop} {px : SX → Prop} {B : S → State → Prop} {BX : String → SX → State → Prop} {AX : Nat → Prop} (hr : vx_Run p l e R s m args below meth c H locs cells slots mc ms (F0 m pc ls st0) rest (va_Qv post B A1 a) (vx_X px BX AX) free) (hS : va_S A0 H0 H locs) (hA : ∀ q, q < H.size → A1 q → A0 q) (hf : ∀ q, free q → A0 q) (hAX : ∀ q, q < H.size → AX q → A0 q)
    (kx : ∀ (E : String) (ce : Cell) (q9 : Addr) (u : SX) (t : State) (H1 : Heap) (locs1 : List Loc), t.heap = H1 → s.vm.Alike t.vm → px u → BX E u t → H.size ≤ H1.size → (∀ q : Nat, q < H.size → ¬ AX q → H1[q]? = H[q]?) → va_S A0 H0 H1 locs1 → H1[q9]? = some ce → ce.vm = .none → s.vm.findClass E = some ce.cls → vx_W p l e R s m args below meth c H1 locs1 (cells + mc) (slots + ms) Q (F0 m pc ls rest) q9)
    (kk : ∀ (u : S) (t : State) (H1 : Heap) (locs1 : List Loc), t.heap = H1 → s.vm.Alike t.vm → post u → B u t → H.size ≤ H1.size → (∀ q : Nat, q < H.size → ¬ A1 q → H1[q]? = H[q]?) → va_S A0 H0 H1 locs1 → W p l e R s m args below meth c H1 locs1 (cells + mc) (slots + ms) Q (F0 m (pc + 3) ls (rest))) : W p l e R s m args below meth c H locs cells slots Q (F0 m pc ls st0) := by
  intro T hT X
  rcases hr T hT X with ⟨v, st₀, t, T', L, h0, X', hL, e1, e2, ⟨⟨u, hv, hp, hb⟩, hF⟩, st⟩ | ⟨q, st₀, t, T', L, E, ce, h0, X', hL, e1, e2, ⟨u, hp, hb, hF⟩, hce, hcv, hcl, st⟩
  · cases hv
    obtain ⟨k1, k2, k3⟩ := vx_keep h0 e1 hS hA hf hL hF
    obtain ⟨t2, a1, b1⟩ := kk u t T'.heap (locs ++ L) e1.symm (by rw [← e2]; exact X'.warmed.alike) hp hb k1 k2 k3 T' rfl X'
    exact ⟨t2, st t2 a1, b1⟩
  · obtain ⟨k1, k2, k3⟩ := vx_keep h0 e1 hS hAX hf hL hF
    obtain ⟨t2, a1, b1⟩ := kx E ce q u t T'.heap (locs ++ L) e1.symm (by rw [← e2]; exact X'.warmed.alike) hp hb k1 k2 k3 (by rw [e1]; exact hce) hcv hcl T' rfl X'
    exact ⟨t2, st.trans a1, b1⟩
/-- caught by the row x of this method's table; the rows ahead don't take it -/
theorem vx_catch {own name : String} {E : String} {ce : Cell} {q : Addr} (hown : s.vm.findClass own = some m.cls) (pre : List ExceptionTableEntry) (x : ExceptionTableEntry) (suf : List ExceptionTableEntry) (hsplit : c.exceptionTable.toList = pre ++ x :: suf)
    (hpass : ∀ z ∈ pre, covers z pc = false ∨ (z.catchType ≠ 0 ∧ ∃ nm : String, (Cond.classLink own z.catchType nm).before args s = true ∧ va_Nc E nm s)) (hx : covers x pc = true) (h0 : x.catchType ≠ 0)
    (hlink : (Cond.classLink own x.catchType name).before args s = true) (hcast : (Cond.castable E name).before args s = true) (hcell : H[q]? = some ce) (hv : ce.vm = .none) (hcl : s.vm.findClass E = some ce.cls)
    (kk : W p l e R s m args below meth c H locs cells slots Q (F0 m x.handlerPc ls [.ref q])) : vx_W p l e R s m args below meth c H locs cells slots Q (F0 m pc ls rest) q := by
  intro T hT X
  have hpl : e.platform.magicAccessors = ({} : Platform).magicAccessors := by rw [X.admits.platform]
  obtain ⟨c3, c4, hc3, hc4, hasg⟩ := Cond.castable_spec hcast
  cases Option.some.inj (hc3.symm.trans hcl)
  obtain ⟨c5, hc5, hcl5⟩ := Cond.classLink_spec hown hlink e.platform hpl
  cases Option.some.inj (hc4.symm.trans hc5)
  obtain ⟨vm', X', st⟩ := X.thenCaughtThrough q (g := F0 m pc ls rest) rfl (Steps.refl _) (by rw [hT]; exact hcell) (by rw [hv]; rfl) (by obtain ⟨k9, h9, -⟩ := Vm.findClass_spec hcl; exact ⟨k9, h9⟩) pre x suf hsplit
    (fun z hz => by
      rcases hpass z hz with h | ⟨hz0, nm, hl1, hn1⟩
      · exact Or.inl h
      · obtain ⟨c6, hc6, hcl6⟩ := Cond.classLink_spec hown hl1 e.platform hpl
        obtain ⟨a8, b8, h1, h2, h3⟩ := hn1
        cases Option.some.inj (h1.symm.trans hcl)
        cases Option.some.inj (h2.symm.trans hc6)
        exact Or.inr ⟨hz0, _, hcl6, h3⟩) hx (Or.inr ⟨h0, c4, hcl5, hasg⟩)
  obtain ⟨t, a1, b1⟩ := kk (T.setVm vm') hT X'
  exact ⟨t, st.trans a1, b1⟩
end Rows
section Ends
variable {p : Program} {l : Launch} {e : Env} {R : Room} {s : State} {m : MethodId} {args : Array Value} {below : List Frame} {meth : Method} {c : Code} {H : Heap} {locs : List Loc} {cells slots : Nat} {Q : State → Prop}
variable {mc ms : Nat} {free : Addr → Prop} {A0 A1 : Nat → Prop} {H0 : Heap} {a : Array Value} {ls : Array Slot} {st0 rest : List Value}
variable {Qc : Array Value → State → Outcome → State → Prop} {XC : String → State → State → Prop}
/-- what a body that may throw owes at its end -/
def vx_MQ (below : List Frame) (Qc : Array Value → State → Outcome → State → Prop) (XC : String → State → State → Prop) (a : Array Value) (s : State) (mc ms : Nat) (free : Addr → Prop) : State → Prop := fun t =>
  ∃ o, t.status = .running ∧ Ended t below o ∧ vx_Q Qc XC mc ms free a s o t
theorem vx_ret {g : JFrame} {mc ms : Nat} (k : W p l e R s m args below meth c H locs cells slots (MQ below Qc args s mc ms free) g) : W p l e R s m args below meth c H locs cells slots (vx_MQ below Qc XC args s mc ms free) g := by
  intro T hT X
  obtain ⟨t, a1, o, b1, b2, b3, b4⟩ := k T hT X
  exact ⟨t, a1, o, b1, b2, Or.inl ⟨b3, b4⟩⟩
/-- not caught here: it goes on to the caller -/
theorem vx_widen {g : JFrame} {q : Addr} {k n : Nat} (h1 : cells ≤ k) (h2 : slots ≤ n) (kk : vx_W p l e R s m args below meth c H locs k n Q g q) : vx_W p l e R s m args below meth c H locs cells slots Q g q := fun T hT X => kk T hT (stand_widen X h1 h2)
theorem vx_out {pc : Nat} {E : String} {ce : Cell} {q : Addr} {mc ms : Nat} (hout : ∀ x ∈ c.exceptionTable.toList, covers x pc = false) (hlocks : meth.locks = false) (hcell : H[q]? = some ce) (hv : ce.vm = .none) (hcl : s.vm.findClass E = some ce.cls)
    (hx : ∀ t : State, t.heap = H → s.vm.Alike t.vm → XC E s t) (hf : ∀ z ∈ locs, free z.base) (hc : cells ≤ mc) (hs : slots ≤ ms) :
    vx_W p l e R s m args below meth c H locs cells slots (vx_MQ below Qc XC args s mc ms free) (F0 m pc ls rest) q := by
  intro T hT X
  obtain ⟨st1, hrun, hend, hW, hsm⟩ := X.leaveThrown q (g := F0 m pc ls rest) rfl rfl rfl hout hlocks
  have hcell9 : (T.setFrames (.throwing q :: below)).heap[q]? = some ce := by
    show T.heap[q]? = some ce
    rw [hT]; exact hcell
  exact ⟨_, st1, .threw q, hrun, hend, Or.inr ⟨q, rfl, E, ce, locs, hx _ hT hW.alike, hcell9, hv, hcl, hW, hsm.mono hc hs, hf⟩⟩
theorem vx_frame {U : State} {k n : Nat} (h : s.sameButNew ({ U with vm := s.vm } : State) locs k n) : s.heap.size ≤ U.heap.size ∧ ∀ q : Nat, q < s.heap.size → (∀ z ∈ locs, z.base ≠ q) → U.heap[q]? = s.heap[q]? := by
  obtain ⟨-, h2, -, -, -, h6⟩ := h
  refine ⟨h2, fun q hq hz => ?_⟩
  obtain ⟨c9, e1, e2, e3, e4⟩ := h6 q _ (Array.getElem?_eq_getElem hq)
  have hs : c9.slots = (s.heap[q]).slots := Array.ext_getElem? fun i => e4 i fun hm => hz _ hm rfl
  have h9 : c9 = s.heap[q] := by
    rw [hs] at e2
    exact e2
  have e5 : U.heap[q]? = some c9 := e1
  rw [e5, h9, Array.getElem?_eq_getElem hq]
/-- the words of a throw but the four that speak of the heap -/
def vx_no (w : Cond) : Bool := decide (w ≠ .isRef (.static Bundle.tN "UNASSIGNED_STACK" Bundle.steD)) && decide (w ≠ .isRef (.static Bundle.tN "SUPPRESSED_SENTINEL" Bundle.listD)) && decide (w ≠ .laysStatic Bundle.tN "UNASSIGNED_STACK" Bundle.steD) && decide (w ≠ .laysStatic Bundle.tN "SUPPRESSED_SENTINEL" Bundle.listD)
def vx_at0 (own : String) (ic : Nat) (X : String) (names : List String) : List Cond := (Bundle.ownAtoms0 own ic X names).filter vx_no
def vx_atS (own : String) (ic : Nat) (X : String) (names : List String) : List Cond := (Bundle.ownAtoms own ic X names).filter vx_no
/-- a word that the tables alone decide, or a good one -/
def vx_ot (w : Cond) : Bool := w.onTables || goodWord w
theorem vx_ot_at {args a' : Array Value} {s U : State} {w : Cond} (hW : s.WarmedH U.vm) (hvm : s.vm = U.vm) (hg : vx_ot w = true) (h : w.before args s = true) : w.before a' U = true := by
  simp only [vx_ot, Bool.or_eq_true] at hg
  rcases hg with hg | hg
  · exact va_tabs hg hvm h
  · exact word_at hW (good_of_word hg) h
/-- a list's words: the good ones out of the method's own list, the others by premises of their own -/
theorem vx_hat {args : Array Value} {s : State} {L B : List Cond} (h1 : ∀ w ∈ L.filter goodWord, w.before args s = true) (h2 : ∀ w ∈ L.filter (fun w => !goodWord w), w ∈ B) (h3 : ∀ w ∈ B, w.before args s = true) : ∀ w ∈ L, w.before args s = true := by
  intro w hw
  by_cases g : goodWord w = true
  · exact h1 w (List.mem_filter.mpr ⟨hw, g⟩)
  · refine h3 w (h2 w (List.mem_filter.mpr ⟨hw, ?_⟩))
    show (!goodWord w) = true
    cases hgw : goodWord w
    · rfl
    · exact absurd hgw g
theorem vx_c {args : Array Value} {s : State} {w : Cond} {B : List Cond} (h : w.before args s = true) (t : ∀ w ∈ B, w.before args s = true) : ∀ w' ∈ w :: B, w'.before args s = true := fun w' h' => (List.mem_cons.mp h').elim (fun e => by rw [e]; exact h) (t w')
theorem vx_n {args : Array Value} {s : State} : ∀ w ∈ ([] : List Cond), w.before args s = true := fun _ h => nomatch h
theorem vx_own {args : Array Value} {s : State} {L : List Cond} (h1 : ∀ w ∈ L.filter vx_no, w.before args s = true)
    (hU : (Cond.isRef (.static Bundle.tN "UNASSIGNED_STACK" Bundle.steD)).before args s = true) (hN : (Cond.isRef (.static Bundle.tN "SUPPRESSED_SENTINEL" Bundle.listD)).before args s = true)
    (lU : (Cond.laysStatic Bundle.tN "UNASSIGNED_STACK" Bundle.steD).before args s = true) (lN : (Cond.laysStatic Bundle.tN "SUPPRESSED_SENTINEL" Bundle.listD).before args s = true) : ∀ w ∈ L, w.before args s = true := by
  intro w hw
  by_cases e1 : w = .isRef (.static Bundle.tN "UNASSIGNED_STACK" Bundle.steD)
  · rw [e1]; exact hU
  · by_cases e2 : w = .isRef (.static Bundle.tN "SUPPRESSED_SENTINEL" Bundle.listD)
    · rw [e2]; exact hN
    · by_cases e3 : w = .laysStatic Bundle.tN "UNASSIGNED_STACK" Bundle.steD
      · rw [e3]; exact lU
      · by_cases e4 : w = .laysStatic Bundle.tN "SUPPRESSED_SENTINEL" Bundle.listD
        · rw [e4]; exact lN
        · exact h1 w (List.mem_filter.mpr ⟨hw, by unfold vx_no; rw [decide_eq_true e1, decide_eq_true e2, decide_eq_true e3, decide_eq_true e4]; rfl⟩)
/-- where a static field lies, its class's statics cell in H -/
def vx_L (C n d : String) (A : Nat → Prop) (U : State) (H : Heap) : Prop := ∃ (c : ClassId) (k : Class) (i : Nat) (f : Field) (a : Nat) (cell : Cell), U.vm.findClass C = some c ∧ U.fieldFound? C n d = some (c, k, i, f) ∧ f.isStatic = true ∧ k.statics = some a ∧ H[a]? = some cell ∧ cell.vm.isStatics = true ∧ cell.cls = c ∧ f.slot < cell.slots.size ∧ k.staticTypes[f.slot]? = some f.type ∧ ¬ A a
theorem vx_L.moved {C n d : String} {A : Nat → Prop} {u U : State} {H : Heap} (hvm : u.vm.Alike U.vm) (h : vx_L C n d A u H) : vx_L C n d A U H := by
  obtain ⟨c, k, i, f, a, cell, h1, h2, h3, h4, h5, h6, h7, h8, h9, h10⟩ := h
  obtain ⟨k', hi', he⟩ := State.fieldFound?_setVm hvm h2
  exact ⟨c, k', i, f, a, cell, by rw [hvm.findClass]; exact h1, hi', h3, by rw [he]; exact h4, h5, h6, h7, h8, by rw [he]; exact h9, h10⟩
theorem vx_L.kept {C n d : String} {A : Nat → Prop} {U : State} {H H1 : Heap} (h : vx_L C n d A U H) (hq : ∀ a : Nat, a < H.size → ¬ A a → H1[a]? = H[a]?) : vx_L C n d A U H1 := by
  obtain ⟨c, k, i, f, a, cell, h1, h2, h3, h4, h5, h6, h7, h8, h9, h10⟩ := h
  exact ⟨c, k, i, f, a, cell, h1, h2, h3, h4, by rw [hq a (Array.getElem?_eq_some_iff.mp h5).1 h10]; exact h5, h6, h7, h8, h9, h10⟩
theorem vx_L.narrow {C n d : String} {A B : Nat → Prop} {U : State} {H : Heap} (h : vx_L C n d A U H) (hAB : ∀ q, B q → A q) : vx_L C n d B U H := by
  obtain ⟨c, k, i, f, a, cell, h1, h2, h3, h4, h5, h6, h7, h8, h9, h10⟩ := h
  exact ⟨c, k, i, f, a, cell, h1, h2, h3, h4, h5, h6, h7, h8, h9, fun z => h10 (hAB _ z)⟩
theorem vx_L.word {C n d : String} {A : Nat → Prop} {s : State} {args : Array Value} (h : vx_L C n d A s s.heap) : (Cond.laysStatic C n d).before args s = true := by
  obtain ⟨c, k, i, f, a, cell, h1, h2, h3, h4, h5, h6, h7, h8, h9, -⟩ := h
  show (Cond.laysStatic C n d).holds args s none s [] = true
  exact Cond.laysStatic_of h1 h2 h3 h4 h5 h6 h7 h8 h9
/-- .. and what it holds: null or some reference -/
def vx_Zq (C n d : String) (A : Nat → Prop) (U : State) (H : Heap) : Prop := va_Zq C n d A U H ∧ vx_L C n d A U H
theorem vx_Zq.moved {C n d : String} {A : Nat → Prop} {u U : State} {H : Heap} (hvm : u.vm.Alike U.vm) (h : vx_Zq C n d A u H) : vx_Zq C n d A U H := ⟨va_Zq.moved hvm h.1, vx_L.moved hvm h.2⟩
theorem vx_Zq.kept {C n d : String} {A : Nat → Prop} {U : State} {H H1 : Heap} (h : vx_Zq C n d A U H) (hq : ∀ a : Nat, a < H.size → ¬ A a → H1[a]? = H[a]?) : vx_Zq C n d A U H1 := ⟨va_Zq.kept h.1 hq, vx_L.kept h.2 hq⟩
theorem vx_Zq.narrow {C n d : String} {A B : Nat → Prop} {U : State} {H : Heap} (h : vx_Zq C n d A U H) (hAB : ∀ q, B q → A q) : vx_Zq C n d B U H := ⟨va_Zq.narrow h.1 hAB, vx_L.narrow h.2 hAB⟩
theorem vx_Zqof {args : Array Value} {s : State} {C n d : String} {A : Nat → Prop} (hl : (Cond.laysStatic C n d).before args s = true) (hini : (Cond.initialized C).before args s = true) (h : (Cond.isRef (.static C n d)).before args s = true) (hA : ∀ a : Nat, a < s.heap.size → ¬ A a) : vx_Zq C n d A s s.heap := by
  refine ⟨va_Zqof hl hini h hA, ?_⟩
  obtain ⟨c, k, i, f, a, cell, h1, h2, h3, h4, h5, h6, h7, h8, h9⟩ := Cond.laysStatic_spec hl
  exact ⟨c, k, i, f, a, cell, h1, h2, h3, h4, h5, h6, h7, h8, h9, hA a (Array.getElem?_eq_some_iff.mp h5).1⟩
theorem vx_isRef {C n d : String} {v : Value} {A : Nat → Prop} {s : State} {args : Array Value} (h : va_Z C n d v A s s.heap) (hv : v.isRef = true) : (Cond.isRef (.static C n d)).before args s = true := by
  obtain ⟨cf, kf, fi, f, a, cell, h1, h2, h3, h4, h5, h6, h7, -⟩ := h
  have he : (Term.static C n d).eval args s none [] s = some v := by
    simp [Term.eval, State.fieldNamed?, h1, h2, h4, h5, h6, h7]
  simp only [Cond.before, Cond.holds, Cond.value, he]
  cases v <;> simp_all [Value.isRef]
theorem vx_isRefq {C n d : String} {A : Nat → Prop} {s : State} {args : Array Value} (h : va_Zq C n d A s s.heap) : (Cond.isRef (.static C n d)).before args s = true := by
  rcases h with h | ⟨t, h⟩
  · exact vx_isRef h rfl
  · exact vx_isRef h rfl
/-- the same frame, seen from here: as if the method were called anew in this heap -/
theorem vx_rebase {T : State} (X : Stand p l e R s m args below meth c T locs cells slots) {R' : Room} (hf : R'.frames ≤ R.frames) (hl : R'.locals ≤ R.locals) (hc : cells + R'.cells ≤ R.cells) (hs : slots + R'.slots ≤ R.slots) :
    Stand p l e R' ((T.setVm s.vm).setFrames (.invoking m args :: below)) m args below meth c T [] 0 0 := by
  have htop : (T.setVm s.vm).topJava?.isSome := X.here.top
  have hF : ((T.setVm s.vm).setFrames (.invoking m args :: below)).frames = .invoking m args :: below := State.frames_setFrames _ (State.cur_lt_of_top htop)
  obtain ⟨g₀, hg0⟩ := Option.isSome_iff_exists.mp htop
  obtain ⟨r, hr⟩ := State.topJava?_eq_some.mp hg0
  have hl9 : e.platform.stackLimits (T.setVm s.vm).me = e.platform.stackLimits s.me := X.limits
  have hb9 : (T.setVm s.vm).me.stackBytes = s.me.stackBytes := X.bytes
  refine ⟨X.admits, X.cas, X.clock, hF, ?_, X.hears, X.method, X.code, X.here, X.tail, X.warmed, ?_, ?_, ?_⟩
  · have h := X.room
    have hU : ((T.setVm s.vm).setFrames (.invoking m args :: below)).localsInUse = s.localsInUse := by
      rw [State.localsInUse_invoking hF (meth := meth) (c := c) X.method X.code, State.localsInUse_invoking X.frames X.method X.code]
    simp only [State.hasRoom, Bool.and_eq_true, decide_eq_true_eq] at h ⊢
    obtain ⟨⟨⟨⟨h1, h2, h3, h4, h5, h6⟩, h7⟩, h8⟩, h9⟩ := h
    rw [X.frames, List.length_cons] at h2 h3
    have q1 := X.heapSize
    have q2 := X.used
    simp only [hF, hU, List.length_cons, State.stackLimits_setFrames, State.stackBytes_setFrames, hl9, hb9]
    refine ⟨⟨⟨⟨by omega, by omega, by omega, by omega, by omega, h6⟩, ?_⟩, ?_⟩, X.book⟩
    · show T.heap.size + R'.cells ≤ e.platform.maxCells
      omega
    · show T.slotsUsed + R'.slots ≤ e.platform.maxSlots
      omega
  · rw [State.stackLimits_setFrames]; rfl
  · rw [State.stackBytes_setFrames]; rfl
  · refine ⟨?_, Nat.le_refl _, Nat.le_refl _, ?_, ?_, fun a c9 h9 => ⟨c9, h9, rfl, rfl, fun _ _ => rfl⟩⟩
    · obtain ⟨t, ht, -⟩ := State.frames_cons hr
      show T.setVm s.vm = { ((T.setVm s.vm).setFrames (.invoking m args :: below)).setFrames (T.setVm s.vm).frames with heap := T.heap, slotsUsed := T.slotsUsed }
      rw [State.setFrames_setFrames, State.setFrames_self ht]
      rfl
    · show T.slotsUsed = T.slotsUsed + ((T.heap.toList.drop T.heap.size).map (·.slots.size)).sum
      rw [List.drop_eq_nil_of_le (Nat.le_of_eq Array.length_toList)]
      rfl
    · show ((T.heap.toList.drop T.heap.size).map (·.slots.size)).sum ≤ 0
      rw [List.drop_eq_nil_of_le (Nat.le_of_eq Array.length_toList)]
      exact Nat.le_refl _
/-- 'throw new E()': new; dup; invokespecial; athrow -/
theorem vx_throw0 {cc : ByteArray} {pc : Nat} (hexec : p.tables.exec = Jvm.exec) (hb : c.code = cc) (hl : l.stackTraces = false) {own cls : String} {names : List String} {ik ic mc ms : Nat} {A : Nat → Prop}
    (hown : s.vm.findClass own = some m.cls) (hcls : Bundle.fit cls = true) (hnames : ∀ n ∈ names, Bundle.fit n = true)
    (hk : (Cond.classLink own ik cls).before args s = true) (hini : (Cond.initialized cls).before args s = true) (hat : ∀ w ∈ vx_at0 own ic cls names, w.before args s = true)
    (hgood : ∀ w ∈ Cond.classLink own ik cls :: Cond.initialized cls :: vx_at0 own ic cls names, vx_ot w = true)
    (hU : vx_Zq Bundle.tN "UNASSIGNED_STACK" Bundle.steD A s s.heap) (hN : vx_Zq Bundle.tN "SUPPRESSED_SENTINEL" Bundle.listD A s s.heap) (hS : va_S A s.heap H locs) (hsize : ls.size = c.maxLocals)
    (d0 : decode cc pc = .ok (.new ik, 3)) (d3 : decode cc (pc + 3) = .ok (.dup, 1)) (d4 : decode cc (pc + 4) = .ok (.invokespecial ic, 3)) (d7 : decode cc (pc + 7) = .ok (.athrow, 1))
    (hout : ∀ x ∈ c.exceptionTable.toList, covers x (pc + 7) = false)
    (hRframes : names.length + 3 < R.frames) (hRlocals : (rest.map fun v => v.category).sum + (13 * (names.length + 1) + 42) ≤ R.locals) (hRcells : cells + 1 ≤ R.cells) (hRslots : slots + 6 ≤ R.slots) (hlocks : meth.locks = false)
    (hx : ∀ t : State, s.vm.Alike t.vm → H.size ≤ t.heap.size → (∀ q : Nat, q < H.size → t.heap[q]? = H[q]?) → XC cls s t)
    (hf : ∀ z ∈ locs, free z.base) (hc : cells + 1 ≤ mc) (hs : slots + 6 ≤ ms) :
    W p l e R s m args below meth c H locs cells slots (vx_MQ below Qc XC args s mc ms free) (F0 m pc ls rest) := by
  intro T hT X
  have htr : e.platform.stackTraces = false := (show e.platform.stackTraces = l.stackTraces by rw [X.admits.platform]).trans hl
  have Y := vx_rebase X (R' := { frames := R.frames, locals := R.locals, cells := 1, slots := 6 }) (Nat.le_refl _) (Nat.le_refl _) hRcells hRslots
  obtain ⟨s', hA⟩ : ∃ z, z = (T.setVm s.vm).setFrames (.invoking m args :: below) := ⟨_, rfl⟩
  rw [← hA] at Y
  have hvm : s'.vm = s.vm := by rw [hA]; rfl
  have hhp : s'.heap = H := by rw [hA]; exact hT
  have hW0 : s.WarmedH s'.vm := by rw [hvm]; exact State.WarmedH.refl s
  have hat' : ∀ w ∈ vx_at0 own ic cls names, w.before args s' = true := fun w hw => vx_ot_at hW0 hvm.symm (hgood w (List.mem_cons_of_mem _ (List.mem_cons_of_mem _ hw))) (hat w hw)
  have hk' : (Cond.classLink own ik cls).before args s' = true := vx_ot_at hW0 hvm.symm (hgood _ List.mem_cons_self) hk
  have hini' : (Cond.initialized cls).before args s' = true := vx_ot_at hW0 hvm.symm (hgood _ (List.mem_cons_of_mem _ List.mem_cons_self)) hini
  have hU' : vx_Zq Bundle.tN "UNASSIGNED_STACK" Bundle.steD A s' s'.heap := by rw [hhp]; exact vx_Zq.moved hW0.alike (hU.kept hS.2.1)
  have hN' : vx_Zq Bundle.tN "SUPPRESSED_SENTINEL" Bundle.listD A s' s'.heap := by rw [hhp]; exact vx_Zq.moved hW0.alike (hN.kept hS.2.1)
  have h : ∀ w ∈ Bundle.ownAtoms0 own ic cls names, w.before args s' = true := vx_own hat' (vx_isRefq hU'.1) (vx_isRefq hN'.1) hU'.2.word hN'.2.word
  have hown' : s'.vm.findClass own = some m.cls := by rw [hvm]; exact hown
  have hins : (Cond.instantiable cls 6).before args s' = true := h _ (by simp [Bundle.ownAtoms0])
  obtain ⟨vm₁, cX, kX, hfX, hkX, -, -, X₁, st1⟩ := Y.newCold hexec (own := own) (C := cls) (index := ik) (n := 6) hown' hk' hins hini'
    (g := F0 m pc ls rest) rfl (by rw [hb]; exact d0) (Nat.le_refl _) (Nat.le_refl _)
  generalize hT1 : (T.setVm vm₁).pushCell { cls := cX, slots := kX.instanceTypes.map defaultValue, vm := .none } = T1 at X₁ st1
  have hcat : (Value.ref T.heap.size).category = 1 := rfl
  have hcellA : T1.heap[T.heap.size]? = some (freshCell cX kX) := by rw [← hT1]; exact State.heap_pushCell_size _ _
  have d3' : decode c.code (pc + 3) = .ok (.dup, 1) := by rw [hb]; exact d3
  obtain ⟨U, hsteps, hrun, hend, hW, hsame, ce, hce, hO⟩ := X₁.ctorThrow0 hexec htr (own := own) (cls := cls) (names := names) (ic := ic) hown' hcls hnames h (fun x hx => nomatch hx) hfX hkX hcellA (by rw [hhp, hT]; exact Nat.le_refl _)
    (g := { method := m, pc := pc + 4, locals := ls, stack := .ref T.heap.size :: .ref T.heap.size :: rest, locked := none }) rfl hsize rfl rfl (rest := rest) rfl
    (by rw [hb]; exact d4) (by rw [hb]; exact d7) hout hRframes (by simp only [List.map_cons, List.sum_cons, hcat]; omega) hlocks
  obtain ⟨f1, f2⟩ := vx_frame hsame
  rw [hhp] at f1 f2
  have hWs : s.WarmedH U.vm := State.WarmedH.trans hW0 hW
  have hcl : s.vm.findClass cls = some ce.cls := by
    have h9 := hO.cls
    rw [hvm] at h9
    exact h9
  have hall : s.sameButNew ({ U with vm := s.vm } : State) locs mc ms := by
    subst hA
    obtain ⟨e1, e2⟩ := hsame
    rw [State.setFrames_setFrames] at e1
    have h2 : (T.setVm s.vm).sameButNew ({ U with vm := s.vm } : State) [] (0 + 1) (0 + 6) := ⟨e1, e2⟩
    have h3 := X.same.trans h2
    rw [List.append_nil] at h3
    exact h3.mono hc hs
  refine ⟨U, ?_, .threw T.heap.size, hrun, hend, Or.inr ⟨T.heap.size, rfl, cls, ce, locs, hx U hWs.alike f1 (fun q hq => f2 q hq (fun z hz => nomatch hz)), hce, hO.vm, hcl, hWs, hall, hf⟩⟩
  refine st1 _ ?_
  show Steps p.tables e below (T1.setTop { method := m, pc := pc + 3, locals := ls, stack := .ref T.heap.size :: rest, locked := none }) _
  jvm_step X₁.here [X₁.here.top, hexec, d3', Value.category]
  exact hsteps
/-- 'throw new E("text")': new; dup; ldc; invokespecial; athrow -/
theorem vx_throwS {cc : ByteArray} {pc : Nat} (hexec : p.tables.exec = Jvm.exec) (hb : c.code = cc) (hl : l.stackTraces = false) {own cls text : String} {names : List String} {ik is ic mc ms sa : Nat} {A : Nat → Prop}
    (hown : s.vm.findClass own = some m.cls) (hcls : Bundle.fit cls = true) (hnames : ∀ n ∈ names, Bundle.fit n = true)
    (hk : (Cond.classLink own ik cls).before args s = true) (hini : (Cond.initialized cls).before args s = true) (hstr : vk_R own is text sa s) (hat : ∀ w ∈ vx_atS own ic cls names, w.before args s = true)
    (hgood : ∀ w ∈ Cond.classLink own ik cls :: Cond.initialized cls :: vx_atS own ic cls names, vx_ot w = true)
    (hU : vx_Zq Bundle.tN "UNASSIGNED_STACK" Bundle.steD A s s.heap) (hN : vx_Zq Bundle.tN "SUPPRESSED_SENTINEL" Bundle.listD A s s.heap) (hS : va_S A s.heap H locs) (hsize : ls.size = c.maxLocals)
    (d0 : decode cc pc = .ok (.new ik, 3)) (d3 : decode cc (pc + 3) = .ok (.dup, 1)) (d4 : decode cc (pc + 4) = .ok (.ldc is, 2)) (d6 : decode cc (pc + 6) = .ok (.invokespecial ic, 3)) (d9 : decode cc (pc + 9) = .ok (.athrow, 1))
    (hout : ∀ x ∈ c.exceptionTable.toList, covers x (pc + 9) = false)
    (hRframes : names.length + 3 < R.frames) (hRlocals : (rest.map fun v => v.category).sum + (13 * (names.length + 1) + 43) ≤ R.locals) (hRcells : cells + 1 ≤ R.cells) (hRslots : slots + 6 ≤ R.slots) (hlocks : meth.locks = false)
    (hx : ∀ t : State, s.vm.Alike t.vm → H.size ≤ t.heap.size → (∀ q : Nat, q < H.size → t.heap[q]? = H[q]?) → XC cls s t)
    (hf : ∀ z ∈ locs, free z.base) (hc : cells + 1 ≤ mc) (hs : slots + 6 ≤ ms) :
    W p l e R s m args below meth c H locs cells slots (vx_MQ below Qc XC args s mc ms free) (F0 m pc ls rest) := by
  intro T hT X
  have htr : e.platform.stackTraces = false := (show e.platform.stackTraces = l.stackTraces by rw [X.admits.platform]).trans hl
  have Y := vx_rebase X (R' := { frames := R.frames, locals := R.locals, cells := 1, slots := 6 }) (Nat.le_refl _) (Nat.le_refl _) hRcells hRslots
  obtain ⟨s', hA⟩ : ∃ z, z = (T.setVm s.vm).setFrames (.invoking m args :: below) := ⟨_, rfl⟩
  rw [← hA] at Y
  have hvm : s'.vm = s.vm := by rw [hA]; rfl
  have hhp : s'.heap = H := by rw [hA]; exact hT
  have hW0 : s.WarmedH s'.vm := by rw [hvm]; exact State.WarmedH.refl s
  have hat' : ∀ w ∈ vx_atS own ic cls names, w.before args s' = true := fun w hw => vx_ot_at hW0 hvm.symm (hgood w (List.mem_cons_of_mem _ (List.mem_cons_of_mem _ hw))) (hat w hw)
  have hk' : (Cond.classLink own ik cls).before args s' = true := vx_ot_at hW0 hvm.symm (hgood _ List.mem_cons_self) hk
  have hini' : (Cond.initialized cls).before args s' = true := vx_ot_at hW0 hvm.symm (hgood _ (List.mem_cons_of_mem _ List.mem_cons_self)) hini
  have hU' : vx_Zq Bundle.tN "UNASSIGNED_STACK" Bundle.steD A s' s'.heap := by rw [hhp]; exact vx_Zq.moved hW0.alike (hU.kept hS.2.1)
  have hN' : vx_Zq Bundle.tN "SUPPRESSED_SENTINEL" Bundle.listD A s' s'.heap := by rw [hhp]; exact vx_Zq.moved hW0.alike (hN.kept hS.2.1)
  have h : ∀ w ∈ Bundle.ownAtoms own ic cls names, w.before args s' = true := vx_own hat' (vx_isRefq hU'.1) (vx_isRefq hN'.1) hU'.2.word hN'.2.word
  have hown' : s'.vm.findClass own = some m.cls := by rw [hvm]; exact hown
  have hins : (Cond.instantiable cls 6).before args s' = true := h _ (by simp [Bundle.ownAtoms])
  obtain ⟨vm₁, cX, kX, hfX, hkX, -, -, X₁, st1⟩ := Y.newCold hexec (own := own) (C := cls) (index := ik) (n := 6) hown' hk' hins hini'
    (g := F0 m pc ls rest) rfl (by rw [hb]; exact d0) (Nat.le_refl _) (Nat.le_refl _)
  generalize hT1 : (T.setVm vm₁).pushCell { cls := cX, slots := kX.instanceTypes.map defaultValue, vm := .none } = T1 at X₁ st1
  have hcat : (Value.ref T.heap.size).category = 1 := rfl
  have hcellA : T1.heap[T.heap.size]? = some (freshCell cX kX) := by rw [← hT1]; exact State.heap_pushCell_size _ _
  have d3' : decode c.code (pc + 3) = .ok (.dup, 1) := by rw [hb]; exact d3
  have d4' : decode c.code (pc + 4) = .ok (.ldc is, 2) := by rw [hb]; exact d4
  have hstr' : vk_R own is text sa s' := vk_R.warm hW0 hstr
  obtain ⟨U, hsteps, hrun, hend, hW, hsame, ce, hce, hO⟩ := X₁.ctorThrowS hexec htr (own := own) (cls := cls) (names := names) (ic := ic) hown' hcls hnames h (fun x hx => nomatch hx) hfX hkX hcellA (by rw [hhp, hT]; exact Nat.le_refl _) (msg := .ref sa) rfl
    (g := { method := m, pc := pc + 6, locals := ls, stack := .ref sa :: .ref T.heap.size :: .ref T.heap.size :: rest, locked := none }) rfl hsize rfl rfl (rest := rest) rfl
    (by rw [hb]; exact d6) (by rw [hb]; exact d9) hout hRframes (by simp only [List.map_cons, List.sum_cons, hcat]; omega) hlocks
  obtain ⟨f1, f2⟩ := vx_frame hsame
  rw [hhp] at f1 f2
  have hWs : s.WarmedH U.vm := State.WarmedH.trans hW0 hW
  have hcl : s.vm.findClass cls = some ce.cls := by
    have h9 := hO.cls
    rw [hvm] at h9
    exact h9
  have hall : s.sameButNew ({ U with vm := s.vm } : State) locs mc ms := by
    subst hA
    obtain ⟨e1, e2⟩ := hsame
    rw [State.setFrames_setFrames] at e1
    have h2 : (T.setVm s.vm).sameButNew ({ U with vm := s.vm } : State) [] (0 + 1) (0 + 6) := ⟨e1, e2⟩
    have h3 := X.same.trans h2
    rw [List.append_nil] at h3
    exact h3.mono hc hs
  refine ⟨U, ?_, .threw T.heap.size, hrun, hend, Or.inr ⟨T.heap.size, rfl, cls, ce, locs, hx U hWs.alike f1 (fun q hq => f2 q hq (fun z hz => nomatch hz)), hce, hO.vm, hcl, hWs, hall, hf⟩⟩
  refine st1 _ ?_
  show Steps p.tables e below (T1.setTop { method := m, pc := pc + 3, locals := ls, stack := .ref T.heap.size :: rest, locked := none }) _
  jvm_step X₁.here [X₁.here.top, hexec, d3', Value.category]
  exact X₁.ldcString hexec (own := own) (text := text) (index := is) (a := sa) hown' hstr'.1 hstr'.2
    (g := { method := m, pc := pc + 4, locals := ls, stack := .ref T.heap.size :: .ref T.heap.size :: rest, locked := none }) rfl d4' _ hsteps
/-- 'throw new E("text")', the text by a wide index -/
theorem vx_throwSW {cc : ByteArray} {pc : Nat} (hexec : p.tables.exec = Jvm.exec) (hb : c.code = cc) (hl : l.stackTraces = false) {own cls text : String} {names : List String} {ik is ic mc ms sa : Nat} {A : Nat → Prop}
    (hown : s.vm.findClass own = some m.cls) (hcls : Bundle.fit cls = true) (hnames : ∀ n ∈ names, Bundle.fit n = true)
    (hk : (Cond.classLink own ik cls).before args s = true) (hini : (Cond.initialized cls).before args s = true) (hstr : vk_R own is text sa s) (hat : ∀ w ∈ vx_atS own ic cls names, w.before args s = true)
    (hgood : ∀ w ∈ Cond.classLink own ik cls :: Cond.initialized cls :: vx_atS own ic cls names, vx_ot w = true)
    (hU : vx_Zq Bundle.tN "UNASSIGNED_STACK" Bundle.steD A s s.heap) (hN : vx_Zq Bundle.tN "SUPPRESSED_SENTINEL" Bundle.listD A s s.heap) (hS : va_S A s.heap H locs) (hsize : ls.size = c.maxLocals)
    (d0 : decode cc pc = .ok (.new ik, 3)) (d3 : decode cc (pc + 3) = .ok (.dup, 1)) (d4 : decode cc (pc + 4) = .ok (.ldc_w is, 3)) (d7 : decode cc (pc + 7) = .ok (.invokespecial ic, 3)) (d10 : decode cc (pc + 10) = .ok (.athrow, 1))
    (hout : ∀ x ∈ c.exceptionTable.toList, covers x (pc + 10) = false)
    (hRframes : names.length + 3 < R.frames) (hRlocals : (rest.map fun v => v.category).sum + (13 * (names.length + 1) + 43) ≤ R.locals) (hRcells : cells + 1 ≤ R.cells) (hRslots : slots + 6 ≤ R.slots) (hlocks : meth.locks = false)
    (hx : ∀ t : State, s.vm.Alike t.vm → H.size ≤ t.heap.size → (∀ q : Nat, q < H.size → t.heap[q]? = H[q]?) → XC cls s t)
    (hf : ∀ z ∈ locs, free z.base) (hc : cells + 1 ≤ mc) (hs : slots + 6 ≤ ms) :
    W p l e R s m args below meth c H locs cells slots (vx_MQ below Qc XC args s mc ms free) (F0 m pc ls rest) := by
  intro T hT X
  have htr : e.platform.stackTraces = false := (show e.platform.stackTraces = l.stackTraces by rw [X.admits.platform]).trans hl
  have Y := vx_rebase X (R' := { frames := R.frames, locals := R.locals, cells := 1, slots := 6 }) (Nat.le_refl _) (Nat.le_refl _) hRcells hRslots
  obtain ⟨s', hA⟩ : ∃ z, z = (T.setVm s.vm).setFrames (.invoking m args :: below) := ⟨_, rfl⟩
  rw [← hA] at Y
  have hvm : s'.vm = s.vm := by rw [hA]; rfl
  have hhp : s'.heap = H := by rw [hA]; exact hT
  have hW0 : s.WarmedH s'.vm := by rw [hvm]; exact State.WarmedH.refl s
  have hat' : ∀ w ∈ vx_atS own ic cls names, w.before args s' = true := fun w hw => vx_ot_at hW0 hvm.symm (hgood w (List.mem_cons_of_mem _ (List.mem_cons_of_mem _ hw))) (hat w hw)
  have hk' : (Cond.classLink own ik cls).before args s' = true := vx_ot_at hW0 hvm.symm (hgood _ List.mem_cons_self) hk
  have hini' : (Cond.initialized cls).before args s' = true := vx_ot_at hW0 hvm.symm (hgood _ (List.mem_cons_of_mem _ List.mem_cons_self)) hini
  have hU' : vx_Zq Bundle.tN "UNASSIGNED_STACK" Bundle.steD A s' s'.heap := by rw [hhp]; exact vx_Zq.moved hW0.alike (hU.kept hS.2.1)
  have hN' : vx_Zq Bundle.tN "SUPPRESSED_SENTINEL" Bundle.listD A s' s'.heap := by rw [hhp]; exact vx_Zq.moved hW0.alike (hN.kept hS.2.1)
  have h : ∀ w ∈ Bundle.ownAtoms own ic cls names, w.before args s' = true := vx_own hat' (vx_isRefq hU'.1) (vx_isRefq hN'.1) hU'.2.word hN'.2.word
  have hown' : s'.vm.findClass own = some m.cls := by rw [hvm]; exact hown
  have hins : (Cond.instantiable cls 6).before args s' = true := h _ (by simp [Bundle.ownAtoms])
  obtain ⟨vm₁, cX, kX, hfX, hkX, -, -, X₁, st1⟩ := Y.newCold hexec (own := own) (C := cls) (index := ik) (n := 6) hown' hk' hins hini'
    (g := F0 m pc ls rest) rfl (by rw [hb]; exact d0) (Nat.le_refl _) (Nat.le_refl _)
  generalize hT1 : (T.setVm vm₁).pushCell { cls := cX, slots := kX.instanceTypes.map defaultValue, vm := .none } = T1 at X₁ st1
  have hcat : (Value.ref T.heap.size).category = 1 := rfl
  have hcellA : T1.heap[T.heap.size]? = some (freshCell cX kX) := by rw [← hT1]; exact State.heap_pushCell_size _ _
  have d3' : decode c.code (pc + 3) = .ok (.dup, 1) := by rw [hb]; exact d3
  have d4' : decode c.code (pc + 4) = .ok (.ldc_w is, 3) := by rw [hb]; exact d4
  have hstr' : vk_R own is text sa s' := vk_R.warm hW0 hstr
  obtain ⟨U, hsteps, hrun, hend, hW, hsame, ce, hce, hO⟩ := X₁.ctorThrowS hexec htr (own := own) (cls := cls) (names := names) (ic := ic) hown' hcls hnames h (fun x hx => nomatch hx) hfX hkX hcellA (by rw [hhp, hT]; exact Nat.le_refl _) (msg := .ref sa) rfl
    (g := { method := m, pc := pc + 7, locals := ls, stack := .ref sa :: .ref T.heap.size :: .ref T.heap.size :: rest, locked := none }) rfl hsize rfl rfl (rest := rest) rfl
    (by rw [hb]; exact d7) (by rw [hb]; exact d10) hout hRframes (by simp only [List.map_cons, List.sum_cons, hcat]; omega) hlocks
  obtain ⟨f1, f2⟩ := vx_frame hsame
  rw [hhp] at f1 f2
  have hWs : s.WarmedH U.vm := State.WarmedH.trans hW0 hW
  have hcl : s.vm.findClass cls = some ce.cls := by
    have h9 := hO.cls
    rw [hvm] at h9
    exact h9
  have hall : s.sameButNew ({ U with vm := s.vm } : State) locs mc ms := by
    subst hA
    obtain ⟨e1, e2⟩ := hsame
    rw [State.setFrames_setFrames] at e1
    have h2 : (T.setVm s.vm).sameButNew ({ U with vm := s.vm } : State) [] (0 + 1) (0 + 6) := ⟨e1, e2⟩
    have h3 := X.same.trans h2
    rw [List.append_nil] at h3
    exact h3.mono hc hs
  refine ⟨U, ?_, .threw T.heap.size, hrun, hend, Or.inr ⟨T.heap.size, rfl, cls, ce, locs, hx U hWs.alike f1 (fun q hq => f2 q hq (fun z hz => nomatch hz)), hce, hO.vm, hcl, hWs, hall, hf⟩⟩
  refine st1 _ ?_
  show Steps p.tables e below (T1.setTop { method := m, pc := pc + 3, locals := ls, stack := .ref T.heap.size :: rest, locked := none }) _
  jvm_step X₁.here [X₁.here.top, hexec, d3', Value.category]
  exact X₁.ldcStringW hexec (own := own) (text := text) (index := is) (a := sa) hown' hstr'.1 hstr'.2
    (g := { method := m, pc := pc + 4, locals := ls, stack := .ref T.heap.size :: .ref T.heap.size :: rest, locked := none }) rfl d4' _ hsteps
end Ends
section Bodies
variable {l : Launch}
theorem vx_ofW {y : MethodName} {ws ws' : List Cond} {rm : Room} {Pc : Array Value → State → Prop} {Qc : Array Value → State → Outcome → State → Prop} {XC : String → State → State → Prop} {mc ms : Nat} {free : Addr → Prop} {cc : ByteArray} {maxL : Nat} {ret : Option FieldType}
    (hy : plainName y.cls = true) (hw : ws = Cond.code y cc maxL ret :: ws')
    (body : ∀ p e s m args below meth c s₁, BodyLoose p l y (headSpec ws rm) cc maxL ret e s m args below meth c s₁ → c.maxLocals = maxL → (∀ x ∈ c.exceptionTable.toList, False) → Pc args s →
      W p l e (headSpec ws rm).room s m args below meth c s.heap [] 0 0 (vx_MQ below Qc XC args s mc ms free) (entryFrame m args maxL)) : vx_Met l y ws rm Pc Qc XC mc ms free := by
  refine MetFree.of_bodyS (code := cc) (maxLocals := maxL) (ret := ret) hy ?_ ?_
  · intro args s m h hn
    obtain ⟨meth, c, h1, h2, h3, h4, h5, h6, -, -⟩ := Cond.code_spec hn (atoms_spec (ws := ws) h _ (by rw [hw]; exact List.mem_cons_self))
    exact ⟨meth, c, h1, h2, h3, h4, h5, h6⟩
  · intro p e s m args below meth c s₁ B hml hP _
    have hh0 : s₁.heap = s.heap := by rw [B.state]; rfl
    have ht : ∀ x ∈ c.exceptionTable.toList, False := by
      obtain ⟨meth9, c9, h1, h2, -, -, -, -, h7, -⟩ := Cond.code_spec B.named (atoms_spec (ws := ws) B.pre _ (by rw [hw]; exact List.mem_cons_self))
      cases Option.some.inj (h1.symm.trans B.method)
      cases Option.some.inj (h2.symm.trans (Stand.of_body B).code)
      intro x hx
      rw [Array.isEmpty_iff.mp h7] at hx
      cases hx
    obtain ⟨t, a1, o, b1, b2, b3⟩ := body p e s m args below meth c s₁ B hml ht hP s₁ hh0 (Stand.of_body B)
    exact ⟨t, o, a1, b1, b2, b3⟩
/-- the table of a body with handlers -/
theorem vx_table {p : Program} {x y : MethodName} {S : Spec} {cc bytes : ByteArray} {maxL maxL' : Nat} {ret ret' : Option FieldType} {e : Env} {s s₁ : State} {m : MethodId} {args : Array Value} {below : List Frame} {meth : Method} {c : Code} {hh : List (Nat × Nat × Nat × Nat)}
    (B : BodyLoose p l y S cc maxL ret e s m args below meth c s₁) (h : (Cond.codeWith y bytes maxL' ret' hh).before args s = true) : c.exceptionTable.toList = tableOf hh := by
  obtain ⟨m9, meth9, c9, hn9, h1, h2, -, -, h6, -⟩ := Cond.codeWith_spec h
  cases Option.some.inj (hn9.symm.trans B.named)
  cases Option.some.inj (h1.symm.trans B.method)
  cases Option.some.inj (h2.symm.trans (Stand.of_body B).code)
  rw [← h6, table_eq]
end Bodies
end VXA
/-! ===== END ===== -/
/-! ===== BEGIN a static call of a method with an exception table ===== -/
section VXS
variable {p : Program} {l : Launch} {e : Env} {R : Room} {s : State} {m : MethodId} {args : Array Value} {below : List Frame} {meth : Method} {c : Code} {T : State} {H : Heap} {locs : List Loc} {cells slots : Nat}
abbrev vx_CSW (R : Room) (s : State) (args : Array Value) (own : String) (index : Nat) (y : MethodName) (bytes : ByteArray) (maxL : Nat) (ret : Option FieldType) (hh : List (Nat × Nat × Nat × Nat)) (ws : List Cond) (rm : Room) (mc ms n : Nat) : Prop :=
  (rm.cells = mc ∧ rm.slots = ms ∧ rm.frames + 1 ≤ R.frames ∧ 8 + (maxL + 11) + rm.locals ≤ R.locals ∧ (∀ w ∈ ws, ∀ (a' : Array Value) (U : State), s.WarmedH U.vm → w.before a' U = true) ∧ Cond.codeWith y bytes maxL ret hh ∈ ws) ∧
  (Cond.codeWith y bytes maxL ret hh).before args s = true ∧ (Cond.initialized y.cls).before args s = true ∧ (y.cls ≠ "java/lang/invoke/MethodHandle" ∧ y.cls ≠ "java/lang/invoke/VarHandle") ∧
  (∀ sig, parseMethodDescriptor y.desc = some sig → n = sig.parameters.length) ∧ (Cond.methodLink own index y).before args s = true ∧ (Cond.static y).before args s = true
theorem vx_cwSW {own : String} {index maxL mc ms : Nat} {y : MethodName} {bytes : ByteArray} {ret : Option FieldType} {hh : List (Nat × Nat × Nat × Nat)} {Ts ws ws' : List Cond} {rm : Room} (n : Nat) (ht : ∀ w ∈ Ts, w.before args s = true) (hT : GoodIn Ts (va_wsS own index y ws)) (hw : ws = Cond.codeWith y bytes maxL ret hh :: ws') (hrc : rm.cells = mc) (hrs : rm.slots = ms)
    (hd : y.cls ≠ "java/lang/invoke/MethodHandle" ∧ y.cls ≠ "java/lang/invoke/VarHandle" ∧ (parseMethodDescriptor y.desc).map (fun d => d.parameters.length) = some n) (hR : rm.frames + 1 ≤ R.frames ∧ 8 + (maxL + 11) + rm.locals ≤ R.locals) :
    vx_CSW R s args own index y bytes maxL ret hh ws rm mc ms n := by
  have ok : ∀ w ∈ va_wsS own index y ws, w.before args s = true := fun w h => ht w (hT w h).1
  have hG : GoodIn Ts ws := fun w h => hT w (by unfold va_wsS; exact List.mem_append_right _ h)
  have hc : Cond.codeWith y bytes maxL ret hh ∈ ws := by rw [hw]; exact List.mem_cons_self
  refine ⟨⟨hrc, hrs, hR.1, hR.2, pay_in ht hG, hc⟩, ht _ (hG _ hc).1, ok _ (by simp [va_wsS]), ⟨hd.1, hd.2.1⟩, fun sig h => ?_, ok _ (by simp [va_wsS]), ok _ (by simp [va_wsS])⟩
  have h2 := hd.2.2
  rw [h] at h2
  exact (Option.some.inj h2).symm
theorem vx_callSW (X : Stand p l e R s m args below meth c T locs cells slots) (hexec : p.tables.exec = Jvm.exec) {own : String} {index : Nat} {y : MethodName} {bytes : ByteArray} {maxL : Nat} {ret : Option FieldType} {hh : List (Nat × Nat × Nat × Nat)}
    (hown : s.vm.findClass own = some m.cls) (hlink : (Cond.methodLink own index y).before args s = true) (hstat : (Cond.static y).before args s = true) (hinit : (Cond.initialized y.cls).before args s = true)
    (hcode : (Cond.codeWith y bytes maxL ret hh).before args s = true) (hy : y.cls ≠ "java/lang/invoke/MethodHandle" ∧ y.cls ≠ "java/lang/invoke/VarHandle")
    {W9 : Nat} {Pre : Pt → Array Value → Prop} {Post : Pt → Array Value → Option Value → Pt → Prop} (hK : Back l R p e below s args y 3 W9 Pre Post)
    {g : JFrame} (hg : g.method = m) (hsize : g.locals.size = c.maxLocals) {argsL rest : List Value} (hlen : ∀ sig, parseMethodDescriptor y.desc = some sig → argsL.length = sig.parameters.length)
    (hstack : g.stack = argsL.reverse ++ rest) (hW : 2 * g.monitorRoom + (rest.map fun v => v.category).sum ≤ W9) (hdg : decode c.code g.pc = .ok (.invokestatic index, 3))
    (hpre : ∀ vm₁, s.WarmedH vm₁ → Pre ⟨T.setVm vm₁, locs, cells, slots⟩ argsL.toArray) :
    ∃ (v : Option Value) (vm₁ : Vm) (B : Pt), s.WarmedH vm₁ ∧ Stand p l e R s m args below meth c B.U B.locs B.cells B.slots ∧ Post ⟨T.setVm vm₁, locs, cells, slots⟩ argsL.toArray v B ∧
      ∀ target, Steps p.tables e below (B.U.setTop { g with pc := g.pc + 3, stack := v.toList ++ rest }) target → Steps p.tables e below (T.setTop g) target := by
  obtain ⟨mk, methM, cM, hnamed, hmethM, -, -, -, -, -, -, hsigM⟩ := Cond.codeWith_spec hcode
  have hstatic : methM.isStatic = true := Cond.static_spec hnamed hmethM hstat
  obtain ⟨kP, hkP, -⟩ := className_of_methodNamed hnamed
  have hinitP : kP.init = .initialized := Cond.initialized_spec (findClass_of_methodNamed hnamed) hkP hinit
  obtain ⟨vm₁, X₁, hstep₁⟩ := X.invokestatic hexec hown hlink hnamed hmethM hstatic hkP hinitP hy (g := g) hg (argsL := argsL) (rest := rest) (hlen _ hsigM) hstack hdg
  obtain ⟨v, B, X', hpost, hsteps⟩ := hK m meth c ⟨T.setVm vm₁, locs, cells, slots⟩ { g with stack := rest } (.invokestatic index) mk argsL.toArray X₁ hg hsize hdg hW (X₁.named hnamed) (hpre vm₁ X₁.warmed)
  exact ⟨v, vm₁, B, X₁.warmed, X', hpost, fun target h => hstep₁ _ fun acts => by rw [doInvoke_state]; exact hsteps.trans h⟩
theorem vx_runSW {y : MethodName} {bytes cc : ByteArray} {maxL nL mc ms n index : Nat} {ret : Option FieldType} {hh : List (Nat × Nat × Nat × Nat)} {ws : List Cond} {rm : Room} {Pc : Array Value → State → Prop} {Qc : Array Value → State → Outcome → State → Prop} {free : Addr → Prop} {Ts : List Cond} {own : String} {As rest : List Value} {g : JFrame}
    (S : CallFix p m c cc nL s args Ts own) (hM : Met l y ws rm Pc Qc mc ms free) (cw : vx_CSW R s args own index y bytes maxL ret hh ws rm mc ms n) (hp : PreS s H Pc As)
    (hg : g.method = m) (hn : As.length = n) (hsize : g.locals.size = nL) (hstack : g.stack = As.reverse ++ rest) (hW : 2 * g.monitorRoom + (rest.map fun v => v.category).sum ≤ 8) (hdg : decode cc g.pc = .ok (.invokestatic index, 3)) (hf : cells + mc ≤ R.cells ∧ slots + ms ≤ R.slots) :
    va_Run p l e R s m args below meth c H locs cells slots mc ms g rest (Qc As.toArray) (free) := by
  obtain ⟨⟨hrc, hrs, hfr, hlo, hws, hcw⟩, hcode, hini, hy, hlen, hl, hstt⟩ := cw
  have hK : Back l R p e below s args y 3 8 (PreOf R mc ms Pc) (PostOf Qc mc ms free) := va_backW (hh := hh) (bytes := bytes) (maxL := maxL) (ret := ret) hM hp.1 hrc hrs hfr hlo hws hcw (fun a' U hW => word_at hW (Or.inl (by first | rfl | simp [Cond.onTables, Cond.keeps, Cond.steady])) hini)
  obtain ⟨hx, hb, hml, ho, -⟩ := S
  intro T hT X
  obtain ⟨v, vm₁, ⟨U', l2, c2, s2⟩, hW₁, X', ⟨g', mk, t, L, e1, e2, hq, h1, hL, h2, h3⟩, st⟩ := vx_callSW X hx (hh := hh) (bytes := bytes) (maxL := maxL) (ret := ret) ho hl hstt hini hcode hy hK hg (hsize.trans hml.symm) (argsL := As) (rest := rest) (fun sig h => hn.trans (hlen sig h)) hstack hW (by rw [hb]; exact hdg)
    (fun vm₁ hW₁ => ⟨hf.1, hf.2, hp.2 (T.setVm vm₁) hT hW₁⟩)
  dsimp only [Pt.U, Pt.locs, Pt.cells, Pt.slots] at X' e1 e2 h1 h2 h3 st
  subst h1; subst h2; subst h3
  exact ⟨v, (T.setVm vm₁).calling g' mk As.toArray, t, U', L, hT, X', hL, e1, e2, hq, st⟩
/-- not caught here, past rows that name other classes: it goes on to the caller -/
theorem vx_outP {p : Program} {l : Launch} {e : Env} {R : Room} {s : State} {m : MethodId} {args : Array Value} {below : List Frame} {meth : Method} {c : Code} {H : Heap} {locs : List Loc} {cells slots : Nat} {free : Addr → Prop} {ls : Array Slot} {rest : List Value} {Qc : Array Value → State → Outcome → State → Prop} {XC : String → State → State → Prop}
    {pc : Nat} {own E : String} {ce : Cell} {q : Addr} {mc ms : Nat} (hown : s.vm.findClass own = some m.cls) (hlocks : meth.locks = false)
    (hpass : ∀ z ∈ c.exceptionTable.toList, covers z pc = false ∨ (z.catchType ≠ 0 ∧ ∃ nm : String, (Cond.classLink own z.catchType nm).before args s = true ∧ va_Nc E nm s)) (hcell : H[q]? = some ce) (hv : ce.vm = .none) (hcl : s.vm.findClass E = some ce.cls)
    (hx : ∀ t : State, t.heap = H → s.vm.Alike t.vm → XC E s t) (hf : ∀ z ∈ locs, free z.base) (hc : cells ≤ mc) (hs : slots ≤ ms) :
    vx_W p l e R s m args below meth c H locs cells slots (vx_MQ below Qc XC args s mc ms free) (F0 m pc ls rest) q := by
  intro T hT X
  have hpl : e.platform.magicAccessors = ({} : Platform).magicAccessors := by rw [X.admits.platform]
  obtain ⟨vm', hW', X', st⟩ := X.outThrough hlocks q (g := F0 m pc ls rest) rfl rfl rfl (cell := ce) (by rw [hT]; exact hcell) (by rw [hv]; rfl)
    (by obtain ⟨k9, h9, -⟩ := Vm.findClass_spec hcl; exact ⟨k9, h9⟩) (fun z hz => by
      rcases hpass z hz with h | ⟨hz0, nm, hl1, hn1⟩
      · exact Or.inl h
      · obtain ⟨c6, hc6, hcl6⟩ := Cond.classLink_spec hown hl1 e.platform hpl
        obtain ⟨a8, b8, h1, h2, h3⟩ := hn1
        cases Option.some.inj (h1.symm.trans hcl)
        cases Option.some.inj (h2.symm.trans hc6)
        exact Or.inr ⟨hz0, _, hcl6, h3⟩)
  obtain ⟨g₀, hfr⟩ := X'.frames_eq
  have hcell9 : ((T.setVm vm').setFrames (.throwing q :: below)).heap[q]? = some ce := by
    show T.heap[q]? = some ce
    rw [hT]; exact hcell
  have hend : Ended ((T.setVm vm').setFrames (.throwing q :: below)) below (.threw q) := State.frames_setFrames _ (State.cur_lt_of_frames hfr)
  refine ⟨(T.setVm vm').setFrames (.throwing q :: below), ?_, .threw q, X'.here.running, hend, Or.inr ⟨q, rfl, E, ce, locs, hx _ hT (X'.ends _).1.alike, hcell9, hv, hcl, (X'.ends _).1, (X'.ends _).2.mono hc hs, hf⟩⟩
  rw [X.pushThrowing_eq]
  exact st
/-- a thing of a world lies in the heap -/
theorem vx_lt {D : va_G} {cl : List vw_C} {ws : va_W} {H1 : Heap} (h : va_P D cl ws H1) {k : Nat} {q : Nat × va_E} (hk : ws[k]? = some q) : q.1 < H1.size := (h k q hk).lt
end VXS
/-! ===== END ===== -/
/-! ===== BEGIN methods with a table of their own: called by a name, returning or throwing ===== -/
section VXH
/-! vx_backW, vx_callVX, vx_callSX, vx_callVW, vx_runVW, vx_runVX, vx_runSX, vx_ofWH follow the same proofs as their sisters above (Free/Laws.lean, Shelf42/LK1.lean); vx_outP calls Shelf42/NT130.lean (outThrough). -/
section
variable {l : Launch} {R : Room} {p : Program} {e : Env} {below : List Frame} {s : State} {sargs : Array Value} {y : MethodName} {len W9 : Nat}
theorem vx_backW {ws : List Cond} {rm : Room} {Pc : Array Value → State → Prop} {Qc : Array Value → State → Outcome → State → Prop} {XC : String → State → State → Prop} {mc ms : Nat} {free : Addr → Prop} {bytes : ByteArray} {maxL : Nat} {ret : Option FieldType} {hh : List (Nat × Nat × Nat × Nat)}
    (hM : vx_Met l y ws rm Pc Qc XC mc ms free) (hblind : FrameBlind Pc) (hrc : rm.cells = mc) (hrs : rm.slots = ms)
    (hframes : rm.frames + 1 ≤ R.frames) (hlocals : W9 + (maxL + 11) + rm.locals ≤ R.locals)
    (hws : ∀ w ∈ ws, ∀ a' U, s.WarmedH U.vm → w.before a' U = true) (hcode : Cond.codeWith y bytes maxL ret hh ∈ ws) (hinit : ∀ a' U, s.WarmedH U.vm → (Cond.initialized y.cls).before a' U = true) :
    vx_Back l R p e below s sargs y len W9 (PreOf R mc ms Pc) (PostOf Qc mc ms free) (vx_Post XC mc ms free) := by
  intro m meth c A g ig mk a X hg hsize hdg hW hn hp
  have h1 : (headSpec ws rm).pre.before a A.U = true := atoms_intro fun w hw => hws w hw _ _ X.warmed
  have h2 : (Cond.codeWith y bytes maxL ret hh).before a A.U = true := hws _ hcode _ _ X.warmed
  have h3 : (Cond.initialized y.cls).before a A.U = true := hinit _ _ X.warmed
  have h4 : A.cells + (headSpec ws rm).room.cells ≤ R.cells := by rw [show (headSpec ws rm).room.cells = mc from hrc]; exact hp.1
  have h5 : A.slots + (headSpec ws rm).room.slots ≤ R.slots := by rw [show (headSpec ws rm).room.slots = ms from hrs]; exact hp.2.1
  have hPc : Pc a (A.U.calling g mk a) := hblind _ _ _ _ hp.2.2
  obtain ⟨U, Ls, c0, s0⟩ := A
  dsimp only [Pt.U, Pt.locs, Pt.cells, Pt.slots] at h1 h2 h3 h4 h5 X hn hPc ⊢
  obtain ⟨m9, methY, cY, hn9, hmY, hcY, -, hlY, -⟩ := Cond.codeWith_spec h2
  cases Option.some.inj (hn9.symm.trans hn)
  obtain ⟨kY, hkY, -⟩ := className_of_methodNamed hn
  have hinitY : kY.init = .initialized := Cond.initialized_spec (findClass_of_methodNamed hn) hkY h3
  have h : At U g.method c below := by rw [hg]; exact X.here
  have hlocals9 : W9 + (maxL + 11) + (headSpec ws rm).room.locals ≤ R.locals := hlocals
  have happ : (headSpec ws rm).appliesLoose y e.platform (U.calling g mk a) = true :=
    Spec.appliesLoose_calling (g := g) h hdg hn hkY hinitY
      (X.room_calling (g := g) (R' := (headSpec ws rm).room) hsize hmY hcY hframes (by rw [hlY]; omega) h4 h5) h1
  obtain ⟨mid, hmid⟩ := h.above
  have hfr : (U.setTop g).frames = (.java g :: mid) ++ below := by rw [State.frames_setTop' g h.top, hmid]; rfl
  obtain ⟨o, s₂, hsteps, -, hend, hq⟩ := Steps.callFree hM p X.admits X.cas X.clock (acts := []) hfr happ hPc trivial
  have hq' : vx_Q Qc XC mc ms free a (U.calling g mk a) o s₂ := hq
  rw [State.frames_setTop' g h.top] at hend
  obtain ⟨g₀, hg0⟩ := Option.isSome_iff_exists.mp h.top
  obtain ⟨r, hr⟩ := State.topJava?_eq_some.mp hg0
  have hr' : (({ U with heap := s₂.heap, slotsUsed := s₂.slotsUsed } : State).setVm s₂.vm).frames = .java g₀ :: r := hr
  rcases hq' with ⟨hqc, L, hfe, hL⟩ | ⟨q, rfl, E, ce, L, hx, hce, hcv, hcl, hW₂, hsm, hL⟩
  · obtain ⟨⟨v, rfl⟩, hW₂, e2, q2, q3, q4, q5, q6⟩ := id hfe
    have e3 : s₂ = ({ (U.calling g mk a).setFrames s₂.frames with heap := s₂.heap, slotsUsed := s₂.slotsUsed } : State).setVm s₂.vm := by
      have : s₂ = ({ s₂ with vm := (U.calling g mk a).vm } : State).setVm s₂.vm := rfl
      rw [e2] at this
      exact this
    obtain ⟨c₂, i₂, len₂, hc₂, hd₂, hf₂⟩ := hend
    have hW' : U.WarmedH s₂.vm := hW₂
    have hcc : c₂ = c := by
      have h1 : s₂.code? g.method = U.code? g.method := by
        rw [State.code?_eq, State.code?_eq, hW'.alike.method?]
      exact Option.some.inj (hc₂.symm.trans (h1.trans h.code))
    subst hcc
    have hlen : len₂ = len := by rw [hdg] at hd₂; cases hd₂; rfl
    subst hlen
    have hs₂ : s₂ = (({ U with heap := s₂.heap, slotsUsed := s₂.slotsUsed } : State).setVm s₂.vm).setTop { g with pc := g.pc + len₂, stack := v.toList ++ g.stack } := by
      refine e3.trans ?_
      rw [hf₂, State.calling_eq h.top, State.setFrames_setFrames, State.setTop_of_frames _ hr', hr]
      rfl
    have hsame : U.sameButNew ({ U with heap := s₂.heap, slotsUsed := s₂.slotsUsed } : State) L mc ms := by
      refine ⟨?_, q2, q3, q4, q5, q6⟩
      obtain ⟨t, ht, -⟩ := State.frames_cons hr
      show ({ U with heap := s₂.heap, slotsUsed := s₂.slotsUsed } : State) = { U.setFrames U.frames with heap := s₂.heap, slotsUsed := s₂.slotsUsed }
      rw [State.setFrames_self ht]
    subst hg
    refine Or.inl ⟨v, ⟨(({ U with heap := s₂.heap, slotsUsed := s₂.slotsUsed } : State).setVm s₂.vm), Ls ++ L, c0 + mc, s0 + ms⟩,
      ⟨X.admits, X.cas, X.clock, X.frames, X.room, X.hears, X.method, X.code, (X.here.setHeapUsed s₂.heap s₂.slotsUsed).setVm hW'.alike, X.tail, State.WarmedH.trans X.warmed hW', X.limits, X.bytes, X.same.trans (hsame.setVm s.vm)⟩,
      ⟨g, mk, s₂, L, rfl, rfl, hqc, rfl, hL, rfl, rfl⟩, ?_⟩
    show Steps p.tables e below _ ((({ U with heap := s₂.heap, slotsUsed := s₂.slotsUsed } : State).setVm s₂.vm).setTop { g with pc := g.pc + len₂, stack := v.toList ++ g.stack })
    rw [← hs₂]
    exact hsteps
  · obtain ⟨e2, q2, q3, q4, q5, q6⟩ := id hsm
    have e3 : s₂ = ({ (U.calling g mk a).setFrames s₂.frames with heap := s₂.heap, slotsUsed := s₂.slotsUsed } : State).setVm s₂.vm := by
      have : s₂ = ({ s₂ with vm := (U.calling g mk a).vm } : State).setVm s₂.vm := rfl
      rw [e2] at this
      exact this
    have hf₂ : s₂.frames = .throwing q :: .java g :: U.frames.tail := hend
    have hW' : U.WarmedH s₂.vm := hW₂
    have hs₂ : s₂ = ((({ U with heap := s₂.heap, slotsUsed := s₂.slotsUsed } : State).setVm s₂.vm).setTop g).pushFrame (.throwing q) := by
      refine e3.trans ?_
      rw [hf₂, State.calling_eq h.top, State.setFrames_setFrames, State.pushFrame, State.frames_setTop _ hr', State.setTop_of_frames _ hr', State.setFrames_setFrames, hr]
      rfl
    have hsame : U.sameButNew ({ U with heap := s₂.heap, slotsUsed := s₂.slotsUsed } : State) L mc ms := by
      refine ⟨?_, q2, q3, q4, q5, q6⟩
      obtain ⟨t, ht, -⟩ := State.frames_cons hr
      show ({ U with heap := s₂.heap, slotsUsed := s₂.slotsUsed } : State) = { U.setFrames U.frames with heap := s₂.heap, slotsUsed := s₂.slotsUsed }
      rw [State.setFrames_self ht]
    subst hg
    refine Or.inr ⟨q, ⟨(({ U with heap := s₂.heap, slotsUsed := s₂.slotsUsed } : State).setVm s₂.vm), Ls ++ L, c0 + mc, s0 + ms⟩,
      ⟨X.admits, X.cas, X.clock, X.frames, X.room, X.hears, X.method, X.code, (X.here.setHeapUsed s₂.heap s₂.slotsUsed).setVm hW'.alike, X.tail, State.WarmedH.trans X.warmed hW', X.limits, X.bytes, X.same.trans (hsame.setVm s.vm)⟩,
      ⟨g, mk, s₂, L, E, ce, rfl, rfl, hx, hce, hcv, hcl, rfl, hL, rfl, rfl⟩, ?_⟩
    show Steps p.tables e below _ (((({ U with heap := s₂.heap, slotsUsed := s₂.slotsUsed } : State).setVm s₂.vm).setTop g).pushFrame (.throwing q))
    rw [← hs₂]
    exact hsteps
end
variable {p : Program} {l : Launch} {e : Env} {R : Room} {s : State} {m : MethodId} {args : Array Value} {below : List Frame} {meth : Method} {c : Code} {T : State} {H : Heap} {locs : List Loc} {cells slots : Nat}
theorem vx_callVX (X : Stand p l e R s m args below meth c T locs cells slots) (hexec : p.tables.exec = Jvm.exec) {own C : String} {index : Nat} {y : MethodName} {bytes : ByteArray} {maxL : Nat} {ret : Option FieldType} {hh : List (Nat × Nat × Nat × Nat)}
    (hown : s.vm.findClass own = some m.cls) (hlink : (Cond.methodLink own index y).before args s = true) (hinst : (Cond.instanceMethod y).before args s = true) (hsel : (Cond.selects C y y).before args s = true)
    (hcode : (Cond.codeWith y bytes maxL ret hh).before args s = true) (hy : y.cls ≠ "java/lang/invoke/MethodHandle" ∧ y.cls ≠ "java/lang/invoke/VarHandle")
    {W9 : Nat} {Pre : Pt → Array Value → Prop} {Post : Pt → Array Value → Option Value → Pt → Prop} {PostX : Pt → Array Value → Addr → Pt → Prop} (hK : vx_Back l R p e below s args y 3 W9 Pre Post PostX)
    {b : Addr} {cellB : Cell} (hcell : T.heap[b]? = some cellB) (hobj : cellB.vm.isStatics = false) (hcls : s.vm.findClass C = some cellB.cls)
    {g : JFrame} (hg : g.method = m) (hsize : g.locals.size = c.maxLocals) {argsL rest : List Value} (hlen : ∀ sig, parseMethodDescriptor y.desc = some sig → argsL.length = sig.parameters.length)
    (hstack : g.stack = argsL.reverse ++ .ref b :: rest) (hW : 2 * g.monitorRoom + (rest.map fun v => v.category).sum ≤ W9) (hdg : decode c.code g.pc = .ok (.invokevirtual index, 3))
    (hpre : ∀ vm₁, s.WarmedH vm₁ → Pre ⟨T.setVm vm₁, locs, cells, slots⟩ (Value.ref b :: argsL).toArray) :
    (∃ (v : Option Value) (vm₁ : Vm) (B : Pt), s.WarmedH vm₁ ∧ Stand p l e R s m args below meth c B.U B.locs B.cells B.slots ∧ Post ⟨T.setVm vm₁, locs, cells, slots⟩ (Value.ref b :: argsL).toArray v B ∧
      ∀ target, Steps p.tables e below (B.U.setTop { g with pc := g.pc + 3, stack := v.toList ++ rest }) target → Steps p.tables e below (T.setTop g) target) ∨
    (∃ (q : Addr) (vm₁ : Vm) (B : Pt), s.WarmedH vm₁ ∧ Stand p l e R s m args below meth c B.U B.locs B.cells B.slots ∧ PostX ⟨T.setVm vm₁, locs, cells, slots⟩ (Value.ref b :: argsL).toArray q B ∧
      Steps p.tables e below (T.setTop g) ((B.U.setTop { g with stack := rest }).pushFrame (.throwing q))) := by
  obtain ⟨mk, methM, hnamed, hmethM, hstM, habM⟩ := Cond.instanceMethod_spec hinst
  obtain ⟨m8, methM', cM, hn8, hmethM', -, -, -, -, -, -, hsigM⟩ := Cond.codeWith_spec hcode
  cases Option.some.inj (hn8.symm.trans hnamed)
  cases hmethM.symm.trans hmethM'
  obtain ⟨c2, r2, m2, q1, q2, q3, q4, kP, hkP, hkPi⟩ := Cond.selects_spec hsel
  cases hcls.symm.trans q1
  cases (State.methodFound?_of_named hnamed hy).symm.trans q2
  cases hnamed.symm.trans q3
  have hselP : selectMethod e.platform s.vm cellB.cls mk = .method mk := by rw [Launch.admits_selectMethod X.admits]; exact q4
  obtain ⟨vm₁, X₁, hstep₁⟩ := X.invokevirtual hexec hown hlink hnamed hmethM hstM hkP hkPi hy (a := b) (cell := cellB) hcell
    (fun z h => by rw [h] at hobj; cases hobj) hselP hmethM habM hkP hkPi (g := g) hg (argsL := argsL) (rest := rest) (hlen _ hsigM) hstack hdg
  rcases hK m meth c ⟨T.setVm vm₁, locs, cells, slots⟩ { g with stack := rest } (.invokevirtual index) mk (Value.ref b :: argsL).toArray X₁ hg hsize hdg hW (X₁.named hnamed) (hpre vm₁ X₁.warmed) with ⟨v, B, X', hpost, hsteps⟩ | ⟨q, B, X', hpost, hsteps⟩
  · exact Or.inl ⟨v, vm₁, B, X₁.warmed, X', hpost, fun target h => hstep₁ _ fun acts => by rw [doInvoke_state]; exact hsteps.trans h⟩
  · exact Or.inr ⟨q, vm₁, B, X₁.warmed, X', hpost, hstep₁ _ fun acts => by rw [doInvoke_state]; exact hsteps⟩
theorem vx_callSX (X : Stand p l e R s m args below meth c T locs cells slots) (hexec : p.tables.exec = Jvm.exec) {own : String} {index : Nat} {y : MethodName} {bytes : ByteArray} {maxL : Nat} {ret : Option FieldType} {hh : List (Nat × Nat × Nat × Nat)}
    (hown : s.vm.findClass own = some m.cls) (hlink : (Cond.methodLink own index y).before args s = true) (hstat : (Cond.static y).before args s = true) (hinit : (Cond.initialized y.cls).before args s = true)
    (hcode : (Cond.codeWith y bytes maxL ret hh).before args s = true) (hy : y.cls ≠ "java/lang/invoke/MethodHandle" ∧ y.cls ≠ "java/lang/invoke/VarHandle")
    {W9 : Nat} {Pre : Pt → Array Value → Prop} {Post : Pt → Array Value → Option Value → Pt → Prop} {PostX : Pt → Array Value → Addr → Pt → Prop} (hK : vx_Back l R p e below s args y 3 W9 Pre Post PostX)
    {g : JFrame} (hg : g.method = m) (hsize : g.locals.size = c.maxLocals) {argsL rest : List Value} (hlen : ∀ sig, parseMethodDescriptor y.desc = some sig → argsL.length = sig.parameters.length)
    (hstack : g.stack = argsL.reverse ++ rest) (hW : 2 * g.monitorRoom + (rest.map fun v => v.category).sum ≤ W9) (hdg : decode c.code g.pc = .ok (.invokestatic index, 3))
    (hpre : ∀ vm₁, s.WarmedH vm₁ → Pre ⟨T.setVm vm₁, locs, cells, slots⟩ argsL.toArray) :
    (∃ (v : Option Value) (vm₁ : Vm) (B : Pt), s.WarmedH vm₁ ∧ Stand p l e R s m args below meth c B.U B.locs B.cells B.slots ∧ Post ⟨T.setVm vm₁, locs, cells, slots⟩ argsL.toArray v B ∧
      ∀ target, Steps p.tables e below (B.U.setTop { g with pc := g.pc + 3, stack := v.toList ++ rest }) target → Steps p.tables e below (T.setTop g) target) ∨
    (∃ (q : Addr) (vm₁ : Vm) (B : Pt), s.WarmedH vm₁ ∧ Stand p l e R s m args below meth c B.U B.locs B.cells B.slots ∧ PostX ⟨T.setVm vm₁, locs, cells, slots⟩ argsL.toArray q B ∧
      Steps p.tables e below (T.setTop g) ((B.U.setTop { g with stack := rest }).pushFrame (.throwing q))) := by
  obtain ⟨mk, methM, cM, hnamed, hmethM, -, -, -, -, -, -, hsigM⟩ := Cond.codeWith_spec hcode
  have hstatic : methM.isStatic = true := Cond.static_spec hnamed hmethM hstat
  obtain ⟨kP, hkP, -⟩ := className_of_methodNamed hnamed
  have hinitP : kP.init = .initialized := Cond.initialized_spec (findClass_of_methodNamed hnamed) hkP hinit
  obtain ⟨vm₁, X₁, hstep₁⟩ := X.invokestatic hexec hown hlink hnamed hmethM hstatic hkP hinitP hy (g := g) hg (argsL := argsL) (rest := rest) (hlen _ hsigM) hstack hdg
  rcases hK m meth c ⟨T.setVm vm₁, locs, cells, slots⟩ { g with stack := rest } (.invokestatic index) mk argsL.toArray X₁ hg hsize hdg hW (X₁.named hnamed) (hpre vm₁ X₁.warmed) with ⟨v, B, X', hpost, hsteps⟩ | ⟨q, B, X', hpost, hsteps⟩
  · exact Or.inl ⟨v, vm₁, B, X₁.warmed, X', hpost, fun target h => hstep₁ _ fun acts => by rw [doInvoke_state]; exact hsteps.trans h⟩
  · exact Or.inr ⟨q, vm₁, B, X₁.warmed, X', hpost, hstep₁ _ fun acts => by rw [doInvoke_state]; exact hsteps⟩
theorem vx_callVW (X : Stand p l e R s m args below meth c T locs cells slots) (hexec : p.tables.exec = Jvm.exec) {own C : String} {index : Nat} {y : MethodName} {bytes : ByteArray} {maxL : Nat} {ret : Option FieldType} {hh : List (Nat × Nat × Nat × Nat)}
    (hown : s.vm.findClass own = some m.cls) (hlink : (Cond.methodLink own index y).before args s = true) (hinst : (Cond.instanceMethod y).before args s = true) (hsel : (Cond.selects C y y).before args s = true)
    (hcode : (Cond.codeWith y bytes maxL ret hh).before args s = true) (hy : y.cls ≠ "java/lang/invoke/MethodHandle" ∧ y.cls ≠ "java/lang/invoke/VarHandle")
    {W9 : Nat} {Pre : Pt → Array Value → Prop} {Post : Pt → Array Value → Option Value → Pt → Prop} (hK : Back l R p e below s args y 3 W9 Pre Post)
    {b : Addr} {cellB : Cell} (hcell : T.heap[b]? = some cellB) (hobj : cellB.vm.isStatics = false) (hcls : s.vm.findClass C = some cellB.cls)
    {g : JFrame} (hg : g.method = m) (hsize : g.locals.size = c.maxLocals) {argsL rest : List Value} (hlen : ∀ sig, parseMethodDescriptor y.desc = some sig → argsL.length = sig.parameters.length)
    (hstack : g.stack = argsL.reverse ++ .ref b :: rest) (hW : 2 * g.monitorRoom + (rest.map fun v => v.category).sum ≤ W9) (hdg : decode c.code g.pc = .ok (.invokevirtual index, 3))
    (hpre : ∀ vm₁, s.WarmedH vm₁ → Pre ⟨T.setVm vm₁, locs, cells, slots⟩ (Value.ref b :: argsL).toArray) :
    ∃ (v : Option Value) (vm₁ : Vm) (B : Pt), s.WarmedH vm₁ ∧ Stand p l e R s m args below meth c B.U B.locs B.cells B.slots ∧ Post ⟨T.setVm vm₁, locs, cells, slots⟩ (Value.ref b :: argsL).toArray v B ∧
      ∀ target, Steps p.tables e below (B.U.setTop { g with pc := g.pc + 3, stack := v.toList ++ rest }) target → Steps p.tables e below (T.setTop g) target := by
  obtain ⟨mk, methM, hnamed, hmethM, hstM, habM⟩ := Cond.instanceMethod_spec hinst
  obtain ⟨m8, methM', cM, hn8, hmethM', -, -, -, -, -, -, hsigM⟩ := Cond.codeWith_spec hcode
  cases Option.some.inj (hn8.symm.trans hnamed)
  cases hmethM.symm.trans hmethM'
  obtain ⟨c2, r2, m2, q1, q2, q3, q4, kP, hkP, hkPi⟩ := Cond.selects_spec hsel
  cases hcls.symm.trans q1
  cases (State.methodFound?_of_named hnamed hy).symm.trans q2
  cases hnamed.symm.trans q3
  have hselP : selectMethod e.platform s.vm cellB.cls mk = .method mk := by rw [Launch.admits_selectMethod X.admits]; exact q4
  obtain ⟨vm₁, X₁, hstep₁⟩ := X.invokevirtual hexec hown hlink hnamed hmethM hstM hkP hkPi hy (a := b) (cell := cellB) hcell
    (fun z h => by rw [h] at hobj; cases hobj) hselP hmethM habM hkP hkPi (g := g) hg (argsL := argsL) (rest := rest) (hlen _ hsigM) hstack hdg
  obtain ⟨v, B, X', hpost, hsteps⟩ := hK m meth c ⟨T.setVm vm₁, locs, cells, slots⟩ { g with stack := rest } (.invokevirtual index) mk (Value.ref b :: argsL).toArray X₁ hg hsize hdg hW (X₁.named hnamed) (hpre vm₁ X₁.warmed)
  exact ⟨v, vm₁, B, X₁.warmed, X', hpost, fun target h => hstep₁ _ fun acts => by rw [doInvoke_state]; exact hsteps.trans h⟩
abbrev vx_CVW (R : Room) (s : State) (args : Array Value) (own C : String) (index : Nat) (y : MethodName) (bytes : ByteArray) (maxL : Nat) (ret : Option FieldType) (hh : List (Nat × Nat × Nat × Nat)) (ws : List Cond) (rm : Room) (mc ms n : Nat) : Prop :=
  (rm.cells = mc ∧ rm.slots = ms ∧ rm.frames + 1 ≤ R.frames ∧ 8 + (maxL + 11) + rm.locals ≤ R.locals ∧ (∀ w ∈ ws, ∀ (a' : Array Value) (U : State), s.WarmedH U.vm → w.before a' U = true) ∧ Cond.codeWith y bytes maxL ret hh ∈ ws) ∧
  (Cond.codeWith y bytes maxL ret hh).before args s = true ∧ (Cond.initialized y.cls).before args s = true ∧ (y.cls ≠ "java/lang/invoke/MethodHandle" ∧ y.cls ≠ "java/lang/invoke/VarHandle") ∧
  (∀ sig, parseMethodDescriptor y.desc = some sig → n = sig.parameters.length) ∧ (Cond.methodLink own index y).before args s = true ∧ (Cond.instanceMethod y).before args s = true ∧ (Cond.selects C y y).before args s = true
theorem vx_cwVW {own C : String} {index maxL mc ms : Nat} {y : MethodName} {bytes : ByteArray} {ret : Option FieldType} {hh : List (Nat × Nat × Nat × Nat)} {Ts ws ws' : List Cond} {rm : Room} (n : Nat) (ht : ∀ w ∈ Ts, w.before args s = true) (hT : GoodIn Ts (wsV own index C y ws)) (hw : ws = Cond.codeWith y bytes maxL ret hh :: ws') (hrc : rm.cells = mc) (hrs : rm.slots = ms)
    (hd : y.cls = C ∧ y.cls ≠ "java/lang/invoke/MethodHandle" ∧ y.cls ≠ "java/lang/invoke/VarHandle" ∧ (parseMethodDescriptor y.desc).map (fun d => d.parameters.length) = some n) (hR : rm.frames + 1 ≤ R.frames ∧ 8 + (maxL + 11) + rm.locals ≤ R.locals) :
    vx_CVW R s args own C index y bytes maxL ret hh ws rm mc ms n := by
  obtain ⟨hC, hd⟩ := hd
  subst hC
  have ok : ∀ w ∈ wsV own index y.cls y ws, w.before args s = true := fun w h => ht w (hT w h).1
  have hG : GoodIn Ts ws := fun w h => hT w (by unfold wsV; exact List.mem_append_right _ h)
  have hc : Cond.codeWith y bytes maxL ret hh ∈ ws := by rw [hw]; exact List.mem_cons_self
  refine ⟨⟨hrc, hrs, hR.1, hR.2, pay_in ht hG, hc⟩, ht _ (hG _ hc).1, ok _ (by simp [wsV]), ⟨hd.1, hd.2.1⟩, fun sig h => ?_, ok _ (by simp [wsV]), ok _ (by simp [wsV]), ok _ (by simp [wsV])⟩
  have h2 := hd.2.2
  rw [h] at h2
  exact (Option.some.inj h2).symm
theorem vx_runVW {y : MethodName} {bytes cc : ByteArray} {maxL nL mc ms n index : Nat} {ret : Option FieldType} {hh : List (Nat × Nat × Nat × Nat)} {ws : List Cond} {rm : Room} {Pc : Array Value → State → Prop} {Qc : Array Value → State → Outcome → State → Prop} {free : Addr → Prop} {Ts : List Cond} {own C : String} {b : Addr} {As rest : List Value} {g : JFrame}
    (S : CallFix p m c cc nL s args Ts own) (hM : Met l y ws rm Pc Qc mc ms free) (cw : vx_CVW R s args own C index y bytes maxL ret hh ws rm mc ms n) (hp : PreV s H C b Pc As)
    (hg : g.method = m) (hn : As.length = n) (hsize : g.locals.size = nL) (hstack : g.stack = As.reverse ++ .ref b :: rest) (hW : 2 * g.monitorRoom + (rest.map fun v => v.category).sum ≤ 8) (hdg : decode cc g.pc = .ok (.invokevirtual index, 3)) (hf : cells + mc ≤ R.cells ∧ slots + ms ≤ R.slots) :
    va_Run p l e R s m args below meth c H locs cells slots mc ms g rest (Qc (Value.ref b :: As).toArray) free := by
  obtain ⟨⟨hrc, hrs, hfr, hlo, hws, hcw⟩, hcode, hini, hy, hlen, hl, hin, hse⟩ := cw
  have hK : Back l R p e below s args y 3 8 (PreOf R mc ms Pc) (PostOf Qc mc ms free) := va_backW (hh := hh) (bytes := bytes) (maxL := maxL) (ret := ret) hM hp.1 hrc hrs hfr hlo hws hcw (fun a' U hW => word_at hW (Or.inl (by first | rfl | simp [Cond.onTables, Cond.keeps, Cond.steady])) hini)
  obtain ⟨hx, hb, hml, ho, -⟩ := S
  obtain ⟨-, ⟨cellB, hcB, hoB, hclB⟩, hPc⟩ := hp
  intro T hT X
  obtain ⟨v, vm₁, ⟨U', l2, c2, s2⟩, hW₁, X', ⟨g', mk, t, L, e1, e2, hq, h1, hL, h2, h3⟩, st⟩ := vx_callVW X hx (C := C) (hh := hh) (bytes := bytes) (maxL := maxL) (ret := ret) ho hl hin hse hcode hy hK (by rw [hT]; exact hcB) hoB hclB hg (hsize.trans hml.symm) (argsL := As) (rest := rest) (fun sig h => hn.trans (hlen sig h)) hstack hW (by rw [hb]; exact hdg)
    (fun vm₁ hW₁ => ⟨hf.1, hf.2, hPc (T.setVm vm₁) hT hW₁⟩)
  dsimp only [Pt.U, Pt.locs, Pt.cells, Pt.slots] at X' e1 e2 h1 h2 h3 st
  subst h1; subst h2; subst h3
  exact ⟨v, (T.setVm vm₁).calling g' mk (Value.ref b :: As).toArray, t, U', L, hT, X', hL, e1, e2, hq, st⟩
section
variable {y : MethodName} {bytes cc : ByteArray} {maxL nL mc ms n index : Nat} {ret : Option FieldType} {ws : List Cond} {rm : Room} {Pc : Array Value → State → Prop} {Qc : Array Value → State → Outcome → State → Prop} {XC : String → State → State → Prop} {free : Addr → Prop} {Ts : List Cond} {own C : String} {b : Addr} {As rest : List Value} {g : JFrame}
theorem vx_runVX {hh : List (Nat × Nat × Nat × Nat)} (S : CallFix p m c cc nL s args Ts own) (hM : vx_Met l y ws rm Pc Qc XC mc ms free) (cw : vx_CVW R s args own C index y bytes maxL ret hh ws rm mc ms n) (hp : PreV s H C b Pc As)
    (hg : g.method = m) (hn : As.length = n) (hsize : g.locals.size = nL) (hstack : g.stack = As.reverse ++ .ref b :: rest) (hW : 2 * g.monitorRoom + (rest.map fun v => v.category).sum ≤ 8) (hdg : decode cc g.pc = .ok (.invokevirtual index, 3)) (hf : cells + mc ≤ R.cells ∧ slots + ms ≤ R.slots) :
    vx_Run p l e R s m args below meth c H locs cells slots mc ms g rest (Qc (Value.ref b :: As).toArray) XC free := by
  obtain ⟨⟨hrc, hrs, hfr, hlo, hws, hcw⟩, hcode, hini, hy, hlen, hl, hin, hse⟩ := cw
  have hK : vx_Back l R p e below s args y 3 8 (PreOf R mc ms Pc) (PostOf Qc mc ms free) (vx_Post XC mc ms free) := vx_backW (hh := hh) (bytes := bytes) (maxL := maxL) (ret := ret) hM hp.1 hrc hrs hfr hlo hws hcw (fun a' U hW => word_at hW (Or.inl (by first | rfl | simp [Cond.onTables, Cond.keeps, Cond.steady])) hini)
  obtain ⟨hx, hb, hml, ho, -⟩ := S
  obtain ⟨-, ⟨cellB, hcB, hoB, hclB⟩, hPc⟩ := hp
  intro T hT X
  rcases vx_callVX X hx (C := C) (hh := hh) (bytes := bytes) (maxL := maxL) (ret := ret) ho hl hin hse hcode hy hK (by rw [hT]; exact hcB) hoB hclB hg (hsize.trans hml.symm) (argsL := As) (rest := rest) (fun sig h => hn.trans (hlen sig h)) hstack hW (by rw [hb]; exact hdg)
    (fun vm₁ hW₁ => ⟨hf.1, hf.2, hPc (T.setVm vm₁) hT hW₁⟩) with ⟨v, vm₁, ⟨U', l2, c2, s2⟩, hW₁, X', ⟨g', mk, t, L, e1, e2, hq, h1, hL, h2, h3⟩, st⟩ | ⟨q, vm₁, ⟨U', l2, c2, s2⟩, hW₁, X', ⟨g', mk, t, L, E, ce, e1, e2, hq, hce, hcv, hcl, h1, hL, h2, h3⟩, st⟩
  · dsimp only [Pt.U, Pt.locs, Pt.cells, Pt.slots] at X' e1 e2 h1 h2 h3 st
    subst h1; subst h2; subst h3
    exact Or.inl ⟨v, (T.setVm vm₁).calling g' mk (Value.ref b :: As).toArray, t, U', L, hT, X', hL, e1, e2, hq, st⟩
  · dsimp only [Pt.U, Pt.locs, Pt.cells, Pt.slots] at X' e1 e2 h1 h2 h3 st hcl
    subst h1; subst h2; subst h3
    exact Or.inr ⟨q, (T.setVm vm₁).calling g' mk (Value.ref b :: As).toArray, t, U', L, E, ce, hT, X', hL, e1, e2, hq, hce, hcv, vx_cls hW₁ hcl, st⟩
theorem vx_runSX {hh : List (Nat × Nat × Nat × Nat)} (S : CallFix p m c cc nL s args Ts own) (hM : vx_Met l y ws rm Pc Qc XC mc ms free) (cw : vx_CSW R s args own index y bytes maxL ret hh ws rm mc ms n) (hp : PreS s H Pc As)
    (hg : g.method = m) (hn : As.length = n) (hsize : g.locals.size = nL) (hstack : g.stack = As.reverse ++ rest) (hW : 2 * g.monitorRoom + (rest.map fun v => v.category).sum ≤ 8) (hdg : decode cc g.pc = .ok (.invokestatic index, 3)) (hf : cells + mc ≤ R.cells ∧ slots + ms ≤ R.slots) :
    vx_Run p l e R s m args below meth c H locs cells slots mc ms g rest (Qc As.toArray) XC free := by
  obtain ⟨⟨hrc, hrs, hfr, hlo, hws, hcw⟩, hcode, hini, hy, hlen, hl, hstt⟩ := cw
  have hK : vx_Back l R p e below s args y 3 8 (PreOf R mc ms Pc) (PostOf Qc mc ms free) (vx_Post XC mc ms free) := vx_backW (hh := hh) (bytes := bytes) (maxL := maxL) (ret := ret) hM hp.1 hrc hrs hfr hlo hws hcw (fun a' U hW => word_at hW (Or.inl (by first | rfl | simp [Cond.onTables, Cond.keeps, Cond.steady])) hini)
  obtain ⟨hx, hb, hml, ho, -⟩ := S
  intro T hT X
  rcases vx_callSX X hx (hh := hh) (bytes := bytes) (maxL := maxL) (ret := ret) ho hl hstt hini hcode hy hK hg (hsize.trans hml.symm) (argsL := As) (rest := rest) (fun sig h => hn.trans (hlen sig h)) hstack hW (by rw [hb]; exact hdg)
    (fun vm₁ hW₁ => ⟨hf.1, hf.2, hp.2 (T.setVm vm₁) hT hW₁⟩) with ⟨v, vm₁, ⟨U', l2, c2, s2⟩, hW₁, X', ⟨g', mk, t, L, e1, e2, hq, h1, hL, h2, h3⟩, st⟩ | ⟨q, vm₁, ⟨U', l2, c2, s2⟩, hW₁, X', ⟨g', mk, t, L, E, ce, e1, e2, hq, hce, hcv, hcl, h1, hL, h2, h3⟩, st⟩
  · dsimp only [Pt.U, Pt.locs, Pt.cells, Pt.slots] at X' e1 e2 h1 h2 h3 st
    subst h1; subst h2; subst h3
    exact Or.inl ⟨v, (T.setVm vm₁).calling g' mk As.toArray, t, U', L, hT, X', hL, e1, e2, hq, st⟩
  · dsimp only [Pt.U, Pt.locs, Pt.cells, Pt.slots] at X' e1 e2 h1 h2 h3 st hcl
    subst h1; subst h2; subst h3
    exact Or.inr ⟨q, (T.setVm vm₁).calling g' mk As.toArray, t, U', L, E, ce, hT, X', hL, e1, e2, hq, hce, hcv, vx_cls hW₁ hcl, st⟩
end
end VXH
theorem vx_ofWH {l : Launch} {y : MethodName} {ws ws' : List Cond} {rm : Room} {Pc : Array Value → State → Prop} {Qc : Array Value → State → Outcome → State → Prop} {XC : String → State → State → Prop} {mc ms : Nat} {free : Addr → Prop} {cc : ByteArray} {maxL : Nat} {ret : Option FieldType} {hh : List (Nat × Nat × Nat × Nat)}
    (hy : plainName y.cls = true) (hw : ws = Cond.codeWith y cc maxL ret hh :: ws')
    (body : ∀ p e s m args below meth c s₁, BodyLoose p l y (headSpec ws rm) cc maxL ret e s m args below meth c s₁ → c.maxLocals = maxL → Pc args s →
      W p l e (headSpec ws rm).room s m args below meth c s.heap [] 0 0 (vx_MQ below Qc XC args s mc ms free) (entryFrame m args maxL)) : vx_Met l y ws rm Pc Qc XC mc ms free := by
  refine MetFree.of_bodyS (code := cc) (maxLocals := maxL) (ret := ret) hy ?_ ?_
  · intro args s m h hn
    obtain ⟨m9, meth, c, hn9, h1, h2, h3, h4, -, h5, h6, -⟩ := Cond.codeWith_spec (atoms_spec (ws := ws) h _ (by rw [hw]; exact List.mem_cons_self))
    cases hn.symm.trans hn9
    exact ⟨meth, c, h1, h2, h3, h4, h5, h6⟩
  · intro p e s m args below meth c s₁ B hml hP _
    have hh0 : s₁.heap = s.heap := by rw [B.state]; rfl
    obtain ⟨t, a1, o, b1, b2, b3⟩ := body p e s m args below meth c s₁ B hml hP s₁ hh0 (Stand.of_body B)
    exact ⟨t, o, a1, b1, b2, b3⟩
/-! ===== END ===== -/

/-! ===== BEGIN printed: names, fields, word lists, decode rows ===== -/
def RX0 : String := "HostKeyring$Certificate"
def TX0 : u_T := fun k => match k with
  | 0 => ("HostKeyring$Certificate", "authority", "I", true)
  | 1 => ("HostKeyring$Certificate", "key", "I", true)
  | 2 => ("HostKeyring$Certificate", "name", "I", true)
  | 3 => ("HostKeyring$Certificate", "places", "I", true)
  | 4 => ("HostKeyring$Certificate", "serial", "I", true)
  | 5 => ("HostKeyring$Certificate", "first", "I", true)
  | _ => ("HostKeyring$Certificate", "last", "I", true)
def tyX0 : Nat → FieldType := fun k => match k with
  | 0 => .int
  | 1 => .int
  | 2 => .int
  | 3 => .int
  | 4 => .int
  | 5 => .int
  | _ => .int
abbrev wsX00 : List Cond := u_ws RX0 TX0 7
theorem nmX0 : ∀ a, a < 7 → ∀ b, b < 7 → a ≠ b → (TX0 a).2.1 ≠ (TX0 b).2.1 := by decide +kernel
theorem tyX0_ok : ∀ k, k < 7 → parseFieldDescriptor (TX0 k).2.2.1 = some (tyX0 k) := by decide +kernel
abbrev cX0_init : ByteArray := prog_2_method_1_code
def yX0_init : MethodName := ⟨RX0, "<init>", "(IIIIIII)V"⟩
def RX1 : String := "HostKeyring$Line"
def TX1 : u_T := fun k => match k with
  | 0 => ("HostKeyring$Line", "mark", "I", false)
  | 1 => ("HostKeyring$Line", "key", "I", false)
  | 2 => ("HostKeyring$Line", "seen", "I", false)
  | 3 => ("HostKeyring$Line", "end", "I", false)
  | 4 => ("HostKeyring$Line", "patterns", "[LHostKeyring$Pattern;", true)
  | 5 => ("HostKeyring$Line", "patternCount", "I", false)
  | 6 => ("HostKeyring$Line", "isHashed", "Z", false)
  | 7 => ("HostKeyring$Line", "hash", "I", false)
  | 8 => ("HostKeyring$Line", "hashSalt", "I", false)
  | _ => ("HostKeyring$Line", "hashPort", "I", false)
def tyX1 : Nat → FieldType := fun k => match k with
  | 0 => .int
  | 1 => .int
  | 2 => .int
  | 3 => .int
  | 4 => .array (.object "HostKeyring$Pattern")
  | 5 => .int
  | 6 => .boolean
  | 7 => .int
  | 8 => .int
  | _ => .int
abbrev wsX10 : List Cond := u_ws RX1 TX1 10
theorem nmX1 : ∀ a, a < 10 → ∀ b, b < 10 → a ≠ b → (TX1 a).2.1 ≠ (TX1 b).2.1 := by decide +kernel
theorem tyX1_ok : ∀ k, k < 10 → parseFieldDescriptor (TX1 k).2.2.1 = some (tyX1 k) := by decide +kernel
abbrev cX1_init : ByteArray := prog_3_method_1_code
def yX1_init : MethodName := ⟨RX1, "<init>", "()V"⟩
abbrev cX1_begin : ByteArray := prog_3_method_2_code
def yX1_begin : MethodName := ⟨RX1, "begin", "(III)V"⟩
abbrev cX1_takePattern : ByteArray := prog_3_method_3_code
def yX1_takePattern : MethodName := ⟨RX1, "takePattern", "(IIIZ)I"⟩
abbrev cX1_takeHash : ByteArray := prog_3_method_4_code
def yX1_takeHash : MethodName := ⟨RX1, "takeHash", "(III)V"⟩
abbrev cX1_takeMatching : ByteArray := prog_3_method_5_code
def yX1_takeMatching : MethodName := ⟨RX1, "takeMatching", "(LHostKeyring$Line;)V"⟩
abbrev cX1_endBy : ByteArray := prog_3_method_6_code
def yX1_endBy : MethodName := ⟨RX1, "endBy", "(I)V"⟩
abbrev cX1_hasEnded : ByteArray := prog_3_method_7_code
def yX1_hasEnded : MethodName := ⟨RX1, "hasEnded", "(I)Z"⟩
abbrev cX1_hasEither : ByteArray := prog_3_method_8_code
def yX1_hasEither : MethodName := ⟨RX1, "hasEither", "(II)Z"⟩
abbrev cX1_covers : ByteArray := prog_3_method_9_code
def yX1_covers : MethodName := ⟨RX1, "covers", "(II)Z"⟩
abbrev cX1_hashOf : ByteArray := prog_3_method_10_code
def yX1_hashOf : MethodName := ⟨RX1, "hashOf", "(II)I"⟩
def RX2 : String := "HostKeyring$Pattern"
def TX2 : u_T := fun k => match k with
  | 0 => ("HostKeyring$Pattern", "name", "I", true)
  | 1 => ("HostKeyring$Pattern", "places", "I", true)
  | 2 => ("HostKeyring$Pattern", "port", "I", true)
  | _ => ("HostKeyring$Pattern", "isDenied", "Z", true)
def tyX2 : Nat → FieldType := fun k => match k with
  | 0 => .int
  | 1 => .int
  | 2 => .int
  | _ => .boolean
abbrev wsX20 : List Cond := u_ws RX2 TX2 4
theorem nmX2 : ∀ a, a < 4 → ∀ b, b < 4 → a ≠ b → (TX2 a).2.1 ≠ (TX2 b).2.1 := by decide +kernel
theorem tyX2_ok : ∀ k, k < 4 → parseFieldDescriptor (TX2 k).2.2.1 = some (tyX2 k) := by decide +kernel
abbrev cX2_init : ByteArray := prog_4_method_1_code
def yX2_init : MethodName := ⟨RX2, "<init>", "(IIIZ)V"⟩
abbrev cX2_fits : ByteArray := prog_4_method_2_code
def yX2_fits : MethodName := ⟨RX2, "fits", "(II)Z"⟩
def RX3 : String := "HostKeyring$Span"
def TX3 : u_T := fun k => match k with
  | 0 => ("HostKeyring$Span", "authority", "I", true)
  | 1 => ("HostKeyring$Span", "from", "I", true)
  | _ => ("HostKeyring$Span", "to", "I", true)
def tyX3 : Nat → FieldType := fun k => match k with
  | 0 => .int
  | 1 => .int
  | _ => .int
abbrev wsX30 : List Cond := u_ws RX3 TX3 3
theorem nmX3 : ∀ a, a < 3 → ∀ b, b < 3 → a ≠ b → (TX3 a).2.1 ≠ (TX3 b).2.1 := by decide +kernel
theorem tyX3_ok : ∀ k, k < 3 → parseFieldDescriptor (TX3 k).2.2.1 = some (tyX3 k) := by decide +kernel
abbrev cX3_init : ByteArray := prog_5_method_1_code
def yX3_init : MethodName := ⟨RX3, "<init>", "(III)V"⟩
abbrev cX3_holds : ByteArray := prog_5_method_2_code
def yX3_holds : MethodName := ⟨RX3, "holds", "(II)Z"⟩
def RX4 : String := "HostKeyring"
def TX4 : u_T := fun k => match k with
  | 0 => ("HostKeyring", "book", "[LHostKeyring$Line;", true)
  | 1 => ("HostKeyring", "lineCount", "I", false)
  | 2 => ("HostKeyring", "certificates", "[LHostKeyring$Certificate;", true)
  | 3 => ("HostKeyring", "certificateCount", "I", false)
  | 4 => ("HostKeyring", "spans", "[LHostKeyring$Span;", true)
  | 5 => ("HostKeyring", "spanCount", "I", false)
  | 6 => ("HostKeyring", "day", "I", false)
  | 7 => ("HostKeyring", "firstSight", "I", false)
  | 8 => ("HostKeyring", "isHashing", "Z", false)
  | 9 => ("HostKeyring", "waitingName", "I", false)
  | 10 => ("HostKeyring", "waitingPort", "I", false)
  | _ => ("HostKeyring", "waitingKey", "I", false)
def tyX4 : Nat → FieldType := fun k => match k with
  | 0 => .array (.object "HostKeyring$Line")
  | 1 => .int
  | 2 => .array (.object "HostKeyring$Certificate")
  | 3 => .int
  | 4 => .array (.object "HostKeyring$Span")
  | 5 => .int
  | 6 => .int
  | 7 => .int
  | 8 => .boolean
  | 9 => .int
  | 10 => .int
  | _ => .int
abbrev wsX40 : List Cond := u_ws RX4 TX4 12
theorem nmX4 : ∀ a, a < 12 → ∀ b, b < 12 → a ≠ b → (TX4 a).2.1 ≠ (TX4 b).2.1 := by decide +kernel
theorem tyX4_ok : ∀ k, k < 12 → parseFieldDescriptor (TX4 k).2.2.1 = some (tyX4 k) := by decide +kernel
abbrev cX4_init : ByteArray := prog_1_method_1_code
def yX4_init : MethodName := ⟨RX4, "<init>", "()V"⟩
abbrev cX4_addLine : ByteArray := prog_1_method_2_code
def yX4_addLine : MethodName := ⟨RX4, "addLine", "(II)I"⟩
abbrev cX4_addPattern : ByteArray := prog_1_method_3_code
def yX4_addPattern : MethodName := ⟨RX4, "addPattern", "(IIIIZ)I"⟩
abbrev cX4_addHashed : ByteArray := prog_1_method_4_code
def yX4_addHashed : MethodName := ⟨RX4, "addHashed", "(IIIII)I"⟩
abbrev cX4_remove : ByteArray := prog_1_method_5_code
def yX4_remove : MethodName := ⟨RX4, "remove", "(I)I"⟩
abbrev cX4_certify : ByteArray := prog_1_method_6_code
def yX4_certify : MethodName := ⟨RX4, "certify", "(IIIIIII)I"⟩
abbrev cX4_revokeSpan : ByteArray := prog_1_method_7_code
def yX4_revokeSpan : MethodName := ⟨RX4, "revokeSpan", "(III)I"⟩
abbrev cX4_setFirstSight : ByteArray := prog_1_method_8_code
def yX4_setFirstSight : MethodName := ⟨RX4, "setFirstSight", "(IZ)I"⟩
abbrev cX4_answer : ByteArray := prog_1_method_9_code
def yX4_answer : MethodName := ⟨RX4, "answer", "(IIII)I"⟩
abbrev cX4_confirm : ByteArray := prog_1_method_10_code
def yX4_confirm : MethodName := ⟨RX4, "confirm", "()I"⟩
abbrev cX4_turn : ByteArray := prog_1_method_11_code
def yX4_turn : MethodName := ⟨RX4, "turn", "(IIIII)I"⟩
abbrev cX4_pass : ByteArray := prog_1_method_12_code
def yX4_pass : MethodName := ⟨RX4, "pass", "(I)I"⟩
abbrev cX4_clean : ByteArray := prog_1_method_13_code
def yX4_clean : MethodName := ⟨RX4, "clean", "(I)I"⟩
abbrev cX4_judge : ByteArray := prog_1_method_14_code
def yX4_judge : MethodName := ⟨RX4, "judge", "(IIII)I"⟩
abbrev cX4_judgeByReading : ByteArray := prog_1_method_15_code
def yX4_judgeByReading : MethodName := ⟨RX4, "judgeByReading", "(III)I"⟩
abbrev cX4_day : ByteArray := prog_1_method_16_code
def yX4_day : MethodName := ⟨RX4, "day", "()I"⟩
abbrev cX4_lines : ByteArray := prog_1_method_17_code
def yX4_lines : MethodName := ⟨RX4, "lines", "()I"⟩
abbrev cX4_keyOf : ByteArray := prog_1_method_18_code
def yX4_keyOf : MethodName := ⟨RX4, "keyOf", "(I)I"⟩
abbrev cX4_seen : ByteArray := prog_1_method_19_code
def yX4_seen : MethodName := ⟨RX4, "seen", "(I)I"⟩
abbrev cX4_end : ByteArray := prog_1_method_20_code
def yX4_end : MethodName := ⟨RX4, "end", "(I)I"⟩
abbrev cX4_matches : ByteArray := prog_1_method_21_code
def yX4_matches : MethodName := ⟨RX4, "matches", "(III)Z"⟩
abbrev cX4_find : ByteArray := prog_1_method_22_code
def yX4_find : MethodName := ⟨RX4, "find", "(II)I"⟩
abbrev cX4_linesOf : ByteArray := prog_1_method_23_code
def yX4_linesOf : MethodName := ⟨RX4, "linesOf", "(I)J"⟩
abbrev cX4_waiting : ByteArray := prog_1_method_24_code
def yX4_waiting : MethodName := ⟨RX4, "waiting", "()I"⟩
abbrev cX4_requireWithin : ByteArray := prog_1_method_25_code
def yX4_requireWithin : MethodName := ⟨RX4, "requireWithin", "(III)V"⟩
abbrev cX4_requireKey : ByteArray := prog_1_method_26_code
def yX4_requireKey : MethodName := ⟨RX4, "requireKey", "(I)V"⟩
abbrev cX4_requireNameAndPort : ByteArray := prog_1_method_27_code
def yX4_requireNameAndPort : MethodName := ⟨RX4, "requireNameAndPort", "(II)V"⟩
abbrev cX4_lineAt : ByteArray := prog_1_method_28_code
def yX4_lineAt : MethodName := ⟨RX4, "lineAt", "(I)LHostKeyring$Line;"⟩
abbrev cX4_certificateAt : ByteArray := prog_1_method_29_code
def yX4_certificateAt : MethodName := ⟨RX4, "certificateAt", "(I)LHostKeyring$Certificate;"⟩
abbrev cX4_appendLine : ByteArray := prog_1_method_30_code
def yX4_appendLine : MethodName := ⟨RX4, "appendLine", "(II)LHostKeyring$Line;"⟩
abbrev cX4_appendSighted : ByteArray := prog_1_method_31_code
def yX4_appendSighted : MethodName := ⟨RX4, "appendSighted", "(III)V"⟩
abbrev cX4_takeOut : ByteArray := prog_1_method_32_code
def yX4_takeOut : MethodName := ⟨RX4, "takeOut", "(I)V"⟩
abbrev cX4_turnLines : ByteArray := prog_1_method_33_code
def yX4_turnLines : MethodName := ⟨RX4, "turnLines", "(IIIII)I"⟩
abbrev cX4_isToBeCleaned : ByteArray := prog_1_method_34_code
def yX4_isToBeCleaned : MethodName := ⟨RX4, "isToBeCleaned", "(LHostKeyring$Line;I)Z"⟩
abbrev cX4_seeToday : ByteArray := prog_1_method_35_code
def yX4_seeToday : MethodName := ⟨RX4, "seeToday", "(IIII)V"⟩
abbrev cX4_letWait : ByteArray := prog_1_method_36_code
def yX4_letWait : MethodName := ⟨RX4, "letWait", "(III)V"⟩
abbrev cX4_judgementOf : ByteArray := prog_1_method_37_code
def yX4_judgementOf : MethodName := ⟨RX4, "judgementOf", "(IIILHostKeyring$Certificate;)I"⟩
abbrev cX4_judgementByLines : ByteArray := prog_1_method_38_code
def yX4_judgementByLines : MethodName := ⟨RX4, "judgementByLines", "(IIII)I"⟩
abbrev cX4_judgementByMatch : ByteArray := prog_1_method_39_code
def yX4_judgementByMatch : MethodName := ⟨RX4, "judgementByMatch", "(LHostKeyring$Line;II)I"⟩
abbrev cX4_isLivePlain : ByteArray := prog_1_method_40_code
def yX4_isLivePlain : MethodName := ⟨RX4, "isLivePlain", "(LHostKeyring$Line;)Z"⟩
abbrev cX4_kindOf : ByteArray := prog_1_method_41_code
def yX4_kindOf : MethodName := ⟨RX4, "kindOf", "(I)I"⟩
abbrev cX4_authorityOf : ByteArray := prog_1_method_42_code
def yX4_authorityOf : MethodName := ⟨RX4, "authorityOf", "(LHostKeyring$Certificate;)I"⟩
abbrev cX4_isGood : ByteArray := prog_1_method_43_code
def yX4_isGood : MethodName := ⟨RX4, "isGood", "(LHostKeyring$Certificate;II)Z"⟩
abbrev cX4_hasAuthority : ByteArray := prog_1_method_44_code
def yX4_hasAuthority : MethodName := ⟨RX4, "hasAuthority", "(III)Z"⟩
abbrev cX4_isInRevokedSpan : ByteArray := prog_1_method_45_code
def yX4_isInRevokedSpan : MethodName := ⟨RX4, "isInRevokedSpan", "(LHostKeyring$Certificate;)Z"⟩
abbrev cX4_countRevokedCertificates : ByteArray := prog_1_method_46_code
def yX4_countRevokedCertificates : MethodName := ⟨RX4, "countRevokedCertificates", "()I"⟩
abbrev cX4_isSameAt : ByteArray := prog_1_method_47_code
def yX4_isSameAt : MethodName := ⟨RX4, "isSameAt", "(III)Z"⟩
def RX5 : String := "HostKeyringModel"
def TX5 : u_T := fun k => match k with
  | 0 => ("HostKeyringModel", "thrown", "I", false)
  | 1 => ("HostKeyringModel", "day", "I", false)
  | 2 => ("HostKeyringModel", "rule", "I", false)
  | 3 => ("HostKeyringModel", "areHashed", "Z", false)
  | 4 => ("HostKeyringModel", "lines", "I", false)
  | 5 => ("HostKeyringModel", "keys", "[I", true)
  | 6 => ("HostKeyringModel", "marks", "[I", true)
  | 7 => ("HostKeyringModel", "seen", "[I", true)
  | 8 => ("HostKeyringModel", "ends", "[I", true)
  | 9 => ("HostKeyringModel", "salts", "[I", true)
  | 10 => ("HostKeyringModel", "hashes", "[I", true)
  | 11 => ("HostKeyringModel", "hashPorts", "[I", true)
  | 12 => ("HostKeyringModel", "sizes", "[I", true)
  | 13 => ("HostKeyringModel", "names", "[I", true)
  | 14 => ("HostKeyringModel", "places", "[I", true)
  | 15 => ("HostKeyringModel", "ports", "[I", true)
  | 16 => ("HostKeyringModel", "denied", "[Z", true)
  | 17 => ("HostKeyringModel", "certificates", "I", false)
  | 18 => ("HostKeyringModel", "authorities", "[I", true)
  | 19 => ("HostKeyringModel", "certKeys", "[I", true)
  | 20 => ("HostKeyringModel", "certNames", "[I", true)
  | 21 => ("HostKeyringModel", "certPlaces", "[I", true)
  | 22 => ("HostKeyringModel", "serials", "[I", true)
  | 23 => ("HostKeyringModel", "firsts", "[I", true)
  | 24 => ("HostKeyringModel", "lasts", "[I", true)
  | 25 => ("HostKeyringModel", "spans", "I", false)
  | 26 => ("HostKeyringModel", "spanOf", "[I", true)
  | 27 => ("HostKeyringModel", "froms", "[I", true)
  | 28 => ("HostKeyringModel", "tos", "[I", true)
  | 29 => ("HostKeyringModel", "waitingKey", "I", false)
  | 30 => ("HostKeyringModel", "waitingName", "I", false)
  | _ => ("HostKeyringModel", "waitingPort", "I", false)
def tyX5 : Nat → FieldType := fun k => match k with
  | 0 => .int
  | 1 => .int
  | 2 => .int
  | 3 => .boolean
  | 4 => .int
  | 5 => .array .int
  | 6 => .array .int
  | 7 => .array .int
  | 8 => .array .int
  | 9 => .array .int
  | 10 => .array .int
  | 11 => .array .int
  | 12 => .array .int
  | 13 => .array .int
  | 14 => .array .int
  | 15 => .array .int
  | 16 => .array .boolean
  | 17 => .int
  | 18 => .array .int
  | 19 => .array .int
  | 20 => .array .int
  | 21 => .array .int
  | 22 => .array .int
  | 23 => .array .int
  | 24 => .array .int
  | 25 => .int
  | 26 => .array .int
  | 27 => .array .int
  | 28 => .array .int
  | 29 => .int
  | 30 => .int
  | _ => .int
abbrev wsX50 : List Cond := u_ws RX5 TX5 32
theorem nmX5 : ∀ a, a < 32 → ∀ b, b < 32 → a ≠ b → (TX5 a).2.1 ≠ (TX5 b).2.1 := by decide +kernel
theorem tyX5_ok : ∀ k, k < 32 → parseFieldDescriptor (TX5 k).2.2.1 = some (tyX5 k) := by decide +kernel
abbrev cX5_init : ByteArray := prog_7_method_1_code
def yX5_init : MethodName := ⟨RX5, "<init>", "()V"⟩
abbrev cX5_thrown : ByteArray := prog_7_method_2_code
def yX5_thrown : MethodName := ⟨RX5, "thrown", "()I"⟩
abbrev cX5_holds : ByteArray := prog_7_method_3_code
def yX5_holds : MethodName := ⟨RX5, "holds", "(I)Z"⟩
abbrev cX5_isIn : ByteArray := prog_7_method_4_code
def yX5_isIn : MethodName := ⟨RX5, "isIn", "(III)Z"⟩
abbrev cX5_isKey : ByteArray := prog_7_method_5_code
def yX5_isKey : MethodName := ⟨RX5, "isKey", "(I)Z"⟩
abbrev cX5_isName : ByteArray := prog_7_method_6_code
def yX5_isName : MethodName := ⟨RX5, "isName", "(I)Z"⟩
abbrev cX5_isPort : ByteArray := prog_7_method_7_code
def yX5_isPort : MethodName := ⟨RX5, "isPort", "(I)Z"⟩
abbrev cX5_isLine : ByteArray := prog_7_method_8_code
def yX5_isLine : MethodName := ⟨RX5, "isLine", "(I)Z"⟩
abbrev cX5_areLike : ByteArray := prog_7_method_9_code
def yX5_areLike : MethodName := ⟨RX5, "areLike", "(III)Z"⟩
abbrev cX5_hash : ByteArray := prog_7_method_10_code
def yX5_hash : MethodName := ⟨RX5, "hash", "(II)I"⟩
abbrev cX5_isFor : ByteArray := prog_7_method_11_code
def yX5_isFor : MethodName := ⟨RX5, "isFor", "(III)Z"⟩
abbrev cX5_hasEnded : ByteArray := prog_7_method_12_code
def yX5_hasEnded : MethodName := ⟨RX5, "hasEnded", "(I)Z"⟩
abbrev cX5_adds : ByteArray := prog_7_method_13_code
def yX5_adds : MethodName := ⟨RX5, "adds", "(II)V"⟩
abbrev cX5_isMark : ByteArray := prog_7_method_14_code
def yX5_isMark : MethodName := ⟨RX5, "isMark", "(I)Z"⟩
abbrev cX5_addLine : ByteArray := prog_7_method_15_code
def yX5_addLine : MethodName := ⟨RX5, "addLine", "(II)I"⟩
abbrev cX5_addsPattern : ByteArray := prog_7_method_16_code
def yX5_addsPattern : MethodName := ⟨RX5, "addsPattern", "(IIIIZ)V"⟩
abbrev cX5_addPattern : ByteArray := prog_7_method_17_code
def yX5_addPattern : MethodName := ⟨RX5, "addPattern", "(IIIIZ)I"⟩
abbrev cX5_addsHashed : ByteArray := prog_7_method_18_code
def yX5_addsHashed : MethodName := ⟨RX5, "addsHashed", "(IIIII)V"⟩
abbrev cX5_addHashed : ByteArray := prog_7_method_19_code
def yX5_addHashed : MethodName := ⟨RX5, "addHashed", "(IIIII)I"⟩
abbrev cX5_becomesLike : ByteArray := prog_7_method_20_code
def yX5_becomesLike : MethodName := ⟨RX5, "becomesLike", "(II)V"⟩
abbrev cX5_removes : ByteArray := prog_7_method_21_code
def yX5_removes : MethodName := ⟨RX5, "removes", "(I)V"⟩
abbrev cX5_remove : ByteArray := prog_7_method_22_code
def yX5_remove : MethodName := ⟨RX5, "remove", "(I)I"⟩
abbrev cX5_certify : ByteArray := prog_7_method_23_code
def yX5_certify : MethodName := ⟨RX5, "certify", "(IIIIIII)I"⟩
abbrev cX5_isRevoked : ByteArray := prog_7_method_24_code
def yX5_isRevoked : MethodName := ⟨RX5, "isRevoked", "(I)Z"⟩
abbrev cX5_revokeSpan : ByteArray := prog_7_method_25_code
def yX5_revokeSpan : MethodName := ⟨RX5, "revokeSpan", "(III)I"⟩
abbrev cX5_has : ByteArray := prog_7_method_26_code
def yX5_has : MethodName := ⟨RX5, "has", "(IIZII)Z"⟩
abbrev cX5_isGood : ByteArray := prog_7_method_27_code
def yX5_isGood : MethodName := ⟨RX5, "isGood", "(III)Z"⟩
abbrev cX5_judgement : ByteArray := prog_7_method_28_code
def yX5_judgement : MethodName := ⟨RX5, "judgement", "(IIII)I"⟩
abbrev cX5_setFirstSight : ByteArray := prog_7_method_29_code
def yX5_setFirstSight : MethodName := ⟨RX5, "setFirstSight", "(IZ)I"⟩
abbrev cX5_areAsked : ByteArray := prog_7_method_30_code
def yX5_areAsked : MethodName := ⟨RX5, "areAsked", "(III)Z"⟩
abbrev cX5_isJudged : ByteArray := prog_7_method_31_code
def yX5_isJudged : MethodName := ⟨RX5, "isJudged", "(IIII)Z"⟩
abbrev cX5_trusts : ByteArray := prog_7_method_32_code
def yX5_trusts : MethodName := ⟨RX5, "trusts", "(III)V"⟩
abbrev cX5_sees : ByteArray := prog_7_method_33_code
def yX5_sees : MethodName := ⟨RX5, "sees", "(III)V"⟩
abbrev cX5_answer : ByteArray := prog_7_method_34_code
def yX5_answer : MethodName := ⟨RX5, "answer", "(IIII)I"⟩
abbrev cX5_confirm : ByteArray := prog_7_method_35_code
def yX5_confirm : MethodName := ⟨RX5, "confirm", "()I"⟩
abbrev cX5_turn : ByteArray := prog_7_method_36_code
def yX5_turn : MethodName := ⟨RX5, "turn", "(IIIII)I"⟩
abbrev cX5_pass : ByteArray := prog_7_method_37_code
def yX5_pass : MethodName := ⟨RX5, "pass", "(I)I"⟩
abbrev cX5_clean : ByteArray := prog_7_method_38_code
def yX5_clean : MethodName := ⟨RX5, "clean", "(I)I"⟩
abbrev cX5_judge : ByteArray := prog_7_method_39_code
def yX5_judge : MethodName := ⟨RX5, "judge", "(IIII)I"⟩
abbrev cX5_judgeByReading : ByteArray := prog_7_method_40_code
def yX5_judgeByReading : MethodName := ⟨RX5, "judgeByReading", "(III)I"⟩
abbrev cX5_day : ByteArray := prog_7_method_41_code
def yX5_day : MethodName := ⟨RX5, "day", "()I"⟩
abbrev cX5_lines : ByteArray := prog_7_method_42_code
def yX5_lines : MethodName := ⟨RX5, "lines", "()I"⟩
abbrev cX5_keyOf : ByteArray := prog_7_method_43_code
def yX5_keyOf : MethodName := ⟨RX5, "keyOf", "(I)I"⟩
abbrev cX5_seen : ByteArray := prog_7_method_44_code
def yX5_seen : MethodName := ⟨RX5, "seen", "(I)I"⟩
abbrev cX5_end : ByteArray := prog_7_method_45_code
def yX5_end : MethodName := ⟨RX5, "end", "(I)I"⟩
abbrev cX5_matches : ByteArray := prog_7_method_46_code
def yX5_matches : MethodName := ⟨RX5, "matches", "(III)Z"⟩
abbrev cX5_find : ByteArray := prog_7_method_47_code
def yX5_find : MethodName := ⟨RX5, "find", "(II)I"⟩
abbrev cX5_linesOf : ByteArray := prog_7_method_48_code
def yX5_linesOf : MethodName := ⟨RX5, "linesOf", "(I)J"⟩
abbrev cX5_waiting : ByteArray := prog_7_method_49_code
def yX5_waiting : MethodName := ⟨RX5, "waiting", "()I"⟩
def RJ9 : String := "java/lang/Math"
def TJ9 : u_T := fun k => match k with
  | _ => ("", "", "", false)
def tyJ9 : Nat → FieldType := fun k => match k with
  | _ => .int
abbrev wsJ90 : List Cond := u_ws RJ9 TJ9 0
theorem nmJ9 : ∀ a, a < 0 → ∀ b, b < 0 → a ≠ b → (TJ9 a).2.1 ≠ (TJ9 b).2.1 := by decide +kernel
theorem tyJ9_ok : ∀ k, k < 0 → parseFieldDescriptor (TJ9 k).2.2.1 = some (tyJ9 k) := by decide +kernel
abbrev cJ9_min_7cf53 : ByteArray := prog_12_method_69_code
def yJ9_min_7cf53 : MethodName := ⟨RJ9, "min", "(II)I"⟩
def RJ0 : String := "java/lang/String"
def TJ0 : u_T := fun k => match k with
  | _ => ("", "", "", false)
def tyJ0 : Nat → FieldType := fun k => match k with
  | _ => .int
abbrev wsJ00 : List Cond := u_ws RJ0 TJ0 0
theorem nmJ0 : ∀ a, a < 0 → ∀ b, b < 0 → a ≠ b → (TJ0 a).2.1 ≠ (TJ0 b).2.1 := by decide +kernel
theorem tyJ0_ok : ∀ k, k < 0 → parseFieldDescriptor (TJ0 k).2.2.1 = some (tyJ0 k) := by decide +kernel
def RL : String := "HostKeyringLaw"
abbrev cL_addLine : ByteArray := method_3_code
def yL_addLine : MethodName := ⟨RL, "addLine", "(LHostKeyring;II[J)I"⟩
abbrev cL_addPattern : ByteArray := method_4_code
def yL_addPattern : MethodName := ⟨RL, "addPattern", "(LHostKeyring;IIIIZ[J)I"⟩
abbrev cL_addHashed : ByteArray := method_5_code
def yL_addHashed : MethodName := ⟨RL, "addHashed", "(LHostKeyring;IIIII[J)I"⟩
abbrev cL_remove : ByteArray := method_6_code
def yL_remove : MethodName := ⟨RL, "remove", "(LHostKeyring;I[J)I"⟩
abbrev cL_certify : ByteArray := method_7_code
def yL_certify : MethodName := ⟨RL, "certify", "(LHostKeyring;IIIIIII[J)I"⟩
abbrev cL_revokeSpan : ByteArray := method_8_code
def yL_revokeSpan : MethodName := ⟨RL, "revokeSpan", "(LHostKeyring;III[J)I"⟩
abbrev cL_setFirstSight : ByteArray := method_9_code
def yL_setFirstSight : MethodName := ⟨RL, "setFirstSight", "(LHostKeyring;IZ[J)I"⟩
abbrev cL_answer : ByteArray := method_10_code
def yL_answer : MethodName := ⟨RL, "answer", "(LHostKeyring;IIII[J)I"⟩
abbrev cL_confirm : ByteArray := method_11_code
def yL_confirm : MethodName := ⟨RL, "confirm", "(LHostKeyring;[J)I"⟩
abbrev cL_turn : ByteArray := method_12_code
def yL_turn : MethodName := ⟨RL, "turn", "(LHostKeyring;IIIII[J)I"⟩
abbrev cL_pass : ByteArray := method_13_code
def yL_pass : MethodName := ⟨RL, "pass", "(LHostKeyring;I[J)I"⟩
abbrev cL_clean : ByteArray := method_14_code
def yL_clean : MethodName := ⟨RL, "clean", "(LHostKeyring;I[J)I"⟩
abbrev cL_judge : ByteArray := method_15_code
def yL_judge : MethodName := ⟨RL, "judge", "(LHostKeyring;IIII[J)I"⟩
abbrev cL_judgeByReading : ByteArray := method_16_code
def yL_judgeByReading : MethodName := ⟨RL, "judgeByReading", "(LHostKeyring;III[J)I"⟩
abbrev cL_keyOf : ByteArray := method_17_code
def yL_keyOf : MethodName := ⟨RL, "keyOf", "(LHostKeyring;I[J)I"⟩
abbrev cL_seen : ByteArray := method_18_code
def yL_seen : MethodName := ⟨RL, "seen", "(LHostKeyring;I[J)I"⟩
abbrev cL_end : ByteArray := method_19_code
def yL_end : MethodName := ⟨RL, "end", "(LHostKeyring;I[J)I"⟩
abbrev cL_matches : ByteArray := method_20_code
def yL_matches : MethodName := ⟨RL, "matches", "(LHostKeyring;III[J)I"⟩
abbrev cL_find : ByteArray := method_21_code
def yL_find : MethodName := ⟨RL, "find", "(LHostKeyring;II[J)I"⟩
abbrev cL_linesOf : ByteArray := method_22_code
def yL_linesOf : MethodName := ⟨RL, "linesOf", "(LHostKeyring;I[J)I"⟩
abbrev cL_law : ByteArray := code
def yL_law : MethodName := ⟨RL, "law", "([I)Z"⟩
def wsX0_init : List Cond := .code yX0_init cX0_init 8 none :: ([.methodLink RX0 1 objectInit, .instanceMethod objectInit, .code objectInit ⟨#[0xb1]⟩ 1 none, .fieldLink RX0 7 "HostKeyring$Certificate" "authority" "I", .fieldLink RX0 13 "HostKeyring$Certificate" "key" "I", .fieldLink RX0 16 "HostKeyring$Certificate" "name" "I", .fieldLink RX0 19 "HostKeyring$Certificate" "places" "I", .fieldLink RX0 22 "HostKeyring$Certificate" "serial" "I", .fieldLink RX0 25 "HostKeyring$Certificate" "first" "I", .fieldLink RX0 28 "HostKeyring$Certificate" "last" "I"] ++ wsX00)
def wsX1_init : List Cond := .code yX1_init cX1_init 1 none :: ([.methodLink RX1 3 objectInit, .instanceMethod objectInit, .code objectInit ⟨#[0xb1]⟩ 1 none, .classLink RX1 9 RX2, .fieldLink RX1 11 "HostKeyring$Line" "patterns" "[LHostKeyring$Pattern;"] ++ wsX10)
def wsX1_begin : List Cond := .code yX1_begin cX1_begin 4 none :: ([.fieldLink RX1 17 "HostKeyring$Line" "mark" "I", .fieldLink RX1 21 "HostKeyring$Line" "key" "I", .fieldLink RX1 24 "HostKeyring$Line" "seen" "I", .fieldLink RX1 27 "HostKeyring$Line" "end" "I", .fieldLink RX1 30 "HostKeyring$Line" "patternCount" "I", .fieldLink RX1 33 "HostKeyring$Line" "isHashed" "Z"] ++ wsX10)
def wsX2_init : List Cond := .code yX2_init cX2_init 5 none :: ([.methodLink RX2 1 objectInit, .instanceMethod objectInit, .code objectInit ⟨#[0xb1]⟩ 1 none, .fieldLink RX2 7 "HostKeyring$Pattern" "name" "I", .fieldLink RX2 13 "HostKeyring$Pattern" "places" "I", .fieldLink RX2 16 "HostKeyring$Pattern" "port" "I", .fieldLink RX2 19 "HostKeyring$Pattern" "isDenied" "Z"] ++ wsX20)
def wsX1_takePattern : List Cond := .code yX1_takePattern cX1_takePattern 5 (some .int) :: ([.classLink RX1 37 "java/lang/IllegalStateException", .initialized "java/lang/IllegalStateException", .fieldLink RX1 33 "HostKeyring$Line" "isHashed" "Z", .fieldLink RX1 30 "HostKeyring$Line" "patternCount" "I", .fieldLink RX1 11 "HostKeyring$Line" "patterns" "[LHostKeyring$Pattern;", .classLink RX1 9 RX2, .instantiable RX2 4, .initialized RX2, .methodLink RX1 44 yX2_init, .instanceMethod yX2_init, .code yX2_init cX2_init 5 none, .methodLink RX2 1 objectInit, .instanceMethod objectInit, .code objectInit ⟨#[0xb1]⟩ 1 none, .fieldLink RX2 7 "HostKeyring$Pattern" "name" "I", .fieldLink RX2 13 "HostKeyring$Pattern" "places" "I", .fieldLink RX2 16 "HostKeyring$Pattern" "port" "I", .fieldLink RX2 19 "HostKeyring$Pattern" "isDenied" "Z"] ++ wsX10 ++ wsX20 ++ (vx_atS RX1 41 "java/lang/IllegalStateException" ["java/lang/RuntimeException", "java/lang/Exception"]).filter goodWord)
def wsX1_hashOf : List Cond := .code yX1_hashOf cX1_hashOf 2 (some .int) :: ([])
def wsX1_takeHash : List Cond := .code yX1_takeHash cX1_takeHash 4 none :: ([.fieldLink RX1 33 "HostKeyring$Line" "isHashed" "Z", .fieldLink RX1 51 "HostKeyring$Line" "hash" "I", .fieldLink RX1 54 "HostKeyring$Line" "hashSalt" "I", .fieldLink RX1 57 "HostKeyring$Line" "hashPort" "I", .methodLink RX1 47 yX1_hashOf, .static yX1_hashOf, .initialized RX1, .code yX1_hashOf cX1_hashOf 2 (some .int)] ++ wsX10)
def wsX1_takeMatching : List Cond := .code yX1_takeMatching cX1_takeMatching 3 none :: ([.fieldLink RX1 30 "HostKeyring$Line" "patternCount" "I", .fieldLink RX1 11 "HostKeyring$Line" "patterns" "[LHostKeyring$Pattern;", .fieldLink RX1 33 "HostKeyring$Line" "isHashed" "Z", .fieldLink RX1 51 "HostKeyring$Line" "hash" "I", .fieldLink RX1 54 "HostKeyring$Line" "hashSalt" "I", .fieldLink RX1 57 "HostKeyring$Line" "hashPort" "I"] ++ wsX10)
def wsX1_endBy : List Cond := .code yX1_endBy cX1_endBy 2 none :: ([.fieldLink RX1 27 "HostKeyring$Line" "end" "I"] ++ wsX10)
def wsX1_hasEnded : List Cond := .code yX1_hasEnded cX1_hasEnded 2 (some .boolean) :: ([.fieldLink RX1 27 "HostKeyring$Line" "end" "I"] ++ wsX10)
def wsX1_hasEither : List Cond := .code yX1_hasEither cX1_hasEither 3 (some .boolean) :: ([.fieldLink RX1 21 "HostKeyring$Line" "key" "I"] ++ wsX10)
def wsX4_isSameAt : List Cond := .code yX4_isSameAt cX4_isSameAt 7 (some .boolean) :: ([])
def wsX2_fits : List Cond := .code yX2_fits cX2_fits 3 (some .boolean) :: ([.fieldLink RX2 16 "HostKeyring$Pattern" "port" "I", .fieldLink RX2 13 "HostKeyring$Pattern" "places" "I", .fieldLink RX2 7 "HostKeyring$Pattern" "name" "I", .static yX4_isSameAt, .initialized RX4, .code yX4_isSameAt cX4_isSameAt 7 (some .boolean)] ++ wsX20)
def wsX1_covers : List Cond := .code yX1_covers cX1_covers 6 (some .boolean) :: ([.fieldLink RX1 33 "HostKeyring$Line" "isHashed" "Z", .fieldLink RX1 57 "HostKeyring$Line" "hashPort" "I", .fieldLink RX1 54 "HostKeyring$Line" "hashSalt" "I", .fieldLink RX1 51 "HostKeyring$Line" "hash" "I", .fieldLink RX1 30 "HostKeyring$Line" "patternCount" "I", .fieldLink RX1 11 "HostKeyring$Line" "patterns" "[LHostKeyring$Pattern;", .methodLink RX1 47 yX1_hashOf, .static yX1_hashOf, .initialized RX1, .code yX1_hashOf cX1_hashOf 2 (some .int), .methodLink RX1 60 yX2_fits, .instanceMethod yX2_fits, .selects RX2 yX2_fits yX2_fits, .initialized RX2, .code yX2_fits cX2_fits 3 (some .boolean), .fieldLink RX2 16 "HostKeyring$Pattern" "port" "I", .fieldLink RX2 13 "HostKeyring$Pattern" "places" "I", .fieldLink RX2 7 "HostKeyring$Pattern" "name" "I", .static yX4_isSameAt, .initialized RX4, .code yX4_isSameAt cX4_isSameAt 7 (some .boolean)] ++ wsX10 ++ wsX20)
def wsX3_init : List Cond := .code yX3_init cX3_init 4 none :: ([.methodLink RX3 1 objectInit, .instanceMethod objectInit, .code objectInit ⟨#[0xb1]⟩ 1 none, .fieldLink RX3 7 "HostKeyring$Span" "authority" "I", .fieldLink RX3 13 "HostKeyring$Span" "from" "I", .fieldLink RX3 16 "HostKeyring$Span" "to" "I"] ++ wsX30)
def wsX3_holds : List Cond := .code yX3_holds cX3_holds 3 (some .boolean) :: ([.fieldLink RX3 7 "HostKeyring$Span" "authority" "I", .fieldLink RX3 13 "HostKeyring$Span" "from" "I", .fieldLink RX3 16 "HostKeyring$Span" "to" "I"] ++ wsX30)
def wsX4_init : List Cond := .code yX4_init cX4_init 2 none :: ([.methodLink RX4 1 objectInit, .instanceMethod objectInit, .code objectInit ⟨#[0xb1]⟩ 1 none, .classLink RX4 9 RX1, .fieldLink RX4 11 "HostKeyring" "book" "[LHostKeyring$Line;", .classLink RX4 15 RX0, .fieldLink RX4 17 "HostKeyring" "certificates" "[LHostKeyring$Certificate;", .classLink RX4 21 RX3, .fieldLink RX4 23 "HostKeyring" "spans" "[LHostKeyring$Span;", .fieldLink RX4 27 "HostKeyring" "firstSight" "I", .fieldLink RX4 31 "HostKeyring" "waitingKey" "I", .instantiable RX1 10, .initialized RX1, .instanceMethod yX1_init, .code yX1_init cX1_init 1 none, .methodLink RX1 3 objectInit, .classLink RX1 9 RX2, .fieldLink RX1 11 "HostKeyring$Line" "patterns" "[LHostKeyring$Pattern;"] ++ wsX40 ++ wsX10)
def wsX4_requireWithin : List Cond := .code yX4_requireWithin cX4_requireWithin 3 none :: ([.classLink RX4 129 "java/lang/IllegalArgumentException", .initialized "java/lang/IllegalArgumentException"] ++ (vx_atS RX4 133 "java/lang/IllegalArgumentException" ["java/lang/RuntimeException", "java/lang/Exception"]).filter goodWord)
def wsX4_requireKey : List Cond := .code yX4_requireKey cX4_requireKey 1 none :: ([.methodLink RX4 35 yX4_requireWithin, .static yX4_requireWithin, .initialized RX4, .code yX4_requireWithin cX4_requireWithin 3 none, .classLink RX4 129 "java/lang/IllegalArgumentException", .initialized "java/lang/IllegalArgumentException"] ++ (vx_atS RX4 133 "java/lang/IllegalArgumentException" ["java/lang/RuntimeException", "java/lang/Exception"]).filter goodWord)
def wsX4_appendLine : List Cond := .code yX4_appendLine cX4_appendLine 4 (some (.object "HostKeyring$Line")) :: ([.classLink RX4 74 "java/lang/IllegalStateException", .initialized "java/lang/IllegalStateException", .fieldLink RX4 47 "HostKeyring" "lineCount" "I", .fieldLink RX4 11 "HostKeyring" "book" "[LHostKeyring$Line;", .fieldLink RX4 146 "HostKeyring" "day" "I", .methodLink RX4 179 yX1_begin, .instanceMethod yX1_begin, .selects RX1 yX1_begin yX1_begin, .initialized RX1, .code yX1_begin cX1_begin 4 none, .fieldLink RX1 17 "HostKeyring$Line" "mark" "I", .fieldLink RX1 21 "HostKeyring$Line" "key" "I", .fieldLink RX1 24 "HostKeyring$Line" "seen" "I", .fieldLink RX1 27 "HostKeyring$Line" "end" "I", .fieldLink RX1 30 "HostKeyring$Line" "patternCount" "I", .fieldLink RX1 33 "HostKeyring$Line" "isHashed" "Z"] ++ wsX40 ++ wsX10 ++ (vx_atS RX4 78 "java/lang/IllegalStateException" ["java/lang/RuntimeException", "java/lang/Exception"]).filter goodWord)
def wsX4_addLine_r1 : List Cond := [Cond.fieldLink RX4 47 "HostKeyring" "lineCount" "I", Cond.methodLink RX4 35 yX4_requireWithin, Cond.static yX4_requireWithin, Cond.initialized RX4, Cond.code yX4_requireWithin cX4_requireWithin 3 none, Cond.classLink RX4 129 "java/lang/IllegalArgumentException", Cond.initialized "java/lang/IllegalArgumentException", Cond.methodLink RX4 39 yX4_requireKey, Cond.static yX4_requireKey, Cond.code yX4_requireKey cX4_requireKey 1 none, Cond.methodLink RX4 43 yX4_appendLine, Cond.instanceMethod yX4_appendLine, Cond.selects RX4 yX4_appendLine yX4_appendLine, Cond.code yX4_appendLine cX4_appendLine 4 (some (.object "HostKeyring$Line")), Cond.classLink RX4 74 "java/lang/IllegalStateException", Cond.initialized "java/lang/IllegalStateException", Cond.fieldLink RX4 11 "HostKeyring" "book" "[LHostKeyring$Line;", Cond.fieldLink RX4 146 "HostKeyring" "day" "I", Cond.methodLink RX4 179 yX1_begin, Cond.instanceMethod yX1_begin, Cond.selects RX1 yX1_begin yX1_begin, Cond.initialized RX1, Cond.code yX1_begin cX1_begin 4 none, Cond.fieldLink RX1 17 "HostKeyring$Line" "mark" "I"]
def wsX4_addLine_r2 : List Cond := [Cond.fieldLink RX1 21 "HostKeyring$Line" "key" "I", Cond.fieldLink RX1 24 "HostKeyring$Line" "seen" "I", Cond.fieldLink RX1 27 "HostKeyring$Line" "end" "I", Cond.fieldLink RX1 30 "HostKeyring$Line" "patternCount" "I", Cond.fieldLink RX1 33 "HostKeyring$Line" "isHashed" "Z"]
def wsX4_addLine : List Cond := .code yX4_addLine cX4_addLine 3 (some .int) :: ((wsX4_addLine_r1 ++ wsX4_addLine_r2) ++ wsX40 ++ wsX10 ++ (vx_atS RX4 133 "java/lang/IllegalArgumentException" ["java/lang/RuntimeException", "java/lang/Exception"]).filter goodWord ++ (vx_atS RX4 78 "java/lang/IllegalStateException" ["java/lang/RuntimeException", "java/lang/Exception"]).filter goodWord)
def wsX4_lineAt : List Cond := .code yX4_lineAt cX4_lineAt 2 (some (.object "HostKeyring$Line")) :: ([.classLink RX4 170 "java/lang/IndexOutOfBoundsException", .initialized "java/lang/IndexOutOfBoundsException", .fieldLink RX4 47 "HostKeyring" "lineCount" "I", .fieldLink RX4 11 "HostKeyring" "book" "[LHostKeyring$Line;"] ++ wsX40 ++ (vx_atS RX4 174 "java/lang/IndexOutOfBoundsException" ["java/lang/RuntimeException", "java/lang/Exception"]).filter goodWord)
def wsX4_requireNameAndPort : List Cond := .code yX4_requireNameAndPort cX4_requireNameAndPort 2 none :: ([.methodLink RX4 35 yX4_requireWithin, .static yX4_requireWithin, .initialized RX4, .code yX4_requireWithin cX4_requireWithin 3 none, .classLink RX4 129 "java/lang/IllegalArgumentException", .initialized "java/lang/IllegalArgumentException"] ++ (vx_atS RX4 133 "java/lang/IllegalArgumentException" ["java/lang/RuntimeException", "java/lang/Exception"]).filter goodWord)
def wsX4_addPattern_r1 : List Cond := [Cond.methodLink RX4 50 yX4_lineAt, Cond.instanceMethod yX4_lineAt, Cond.selects RX4 yX4_lineAt yX4_lineAt, Cond.initialized RX4, Cond.code yX4_lineAt cX4_lineAt 2 (some (.object "HostKeyring$Line")), Cond.classLink RX4 170 "java/lang/IndexOutOfBoundsException", Cond.initialized "java/lang/IndexOutOfBoundsException", Cond.fieldLink RX4 47 "HostKeyring" "lineCount" "I", Cond.fieldLink RX4 11 "HostKeyring" "book" "[LHostKeyring$Line;", Cond.methodLink RX4 54 yX4_requireNameAndPort, Cond.static yX4_requireNameAndPort, Cond.code yX4_requireNameAndPort cX4_requireNameAndPort 2 none, Cond.methodLink RX4 35 yX4_requireWithin, Cond.static yX4_requireWithin, Cond.code yX4_requireWithin cX4_requireWithin 3 none, Cond.classLink RX4 129 "java/lang/IllegalArgumentException", Cond.initialized "java/lang/IllegalArgumentException", Cond.methodLink RX4 58 yX1_takePattern, Cond.instanceMethod yX1_takePattern, Cond.selects RX1 yX1_takePattern yX1_takePattern, Cond.initialized RX1, Cond.code yX1_takePattern cX1_takePattern 5 (some .int), Cond.classLink RX1 37 "java/lang/IllegalStateException", Cond.initialized "java/lang/IllegalStateException"]
def wsX4_addPattern_r2 : List Cond := [Cond.fieldLink RX1 33 "HostKeyring$Line" "isHashed" "Z", Cond.fieldLink RX1 30 "HostKeyring$Line" "patternCount" "I", Cond.fieldLink RX1 11 "HostKeyring$Line" "patterns" "[LHostKeyring$Pattern;", Cond.classLink RX1 9 RX2, Cond.instantiable RX2 4, Cond.initialized RX2, Cond.methodLink RX1 44 yX2_init, Cond.instanceMethod yX2_init, Cond.code yX2_init cX2_init 5 none, Cond.methodLink RX2 1 objectInit, Cond.instanceMethod objectInit, Cond.code objectInit ⟨#[0xb1]⟩ 1 none, Cond.fieldLink RX2 7 "HostKeyring$Pattern" "name" "I", Cond.fieldLink RX2 13 "HostKeyring$Pattern" "places" "I", Cond.fieldLink RX2 16 "HostKeyring$Pattern" "port" "I", Cond.fieldLink RX2 19 "HostKeyring$Pattern" "isDenied" "Z"]
def wsX4_addPattern : List Cond := .code yX4_addPattern cX4_addPattern 7 (some .int) :: ((wsX4_addPattern_r1 ++ wsX4_addPattern_r2) ++ wsX40 ++ wsX10 ++ wsX20 ++ (vx_atS RX4 174 "java/lang/IndexOutOfBoundsException" ["java/lang/RuntimeException", "java/lang/Exception"]).filter goodWord ++ (vx_atS RX4 133 "java/lang/IllegalArgumentException" ["java/lang/RuntimeException", "java/lang/Exception"]).filter goodWord ++ (vx_atS RX1 41 "java/lang/IllegalStateException" ["java/lang/RuntimeException", "java/lang/Exception"]).filter goodWord)
def wsX4_addHashed_r1 : List Cond := [Cond.fieldLink RX4 47 "HostKeyring" "lineCount" "I", Cond.methodLink RX4 35 yX4_requireWithin, Cond.static yX4_requireWithin, Cond.initialized RX4, Cond.code yX4_requireWithin cX4_requireWithin 3 none, Cond.classLink RX4 129 "java/lang/IllegalArgumentException", Cond.initialized "java/lang/IllegalArgumentException", Cond.methodLink RX4 39 yX4_requireKey, Cond.static yX4_requireKey, Cond.code yX4_requireKey cX4_requireKey 1 none, Cond.methodLink RX4 54 yX4_requireNameAndPort, Cond.static yX4_requireNameAndPort, Cond.code yX4_requireNameAndPort cX4_requireNameAndPort 2 none, Cond.methodLink RX4 43 yX4_appendLine, Cond.instanceMethod yX4_appendLine, Cond.selects RX4 yX4_appendLine yX4_appendLine, Cond.code yX4_appendLine cX4_appendLine 4 (some (.object "HostKeyring$Line")), Cond.classLink RX4 74 "java/lang/IllegalStateException", Cond.initialized "java/lang/IllegalStateException", Cond.fieldLink RX4 11 "HostKeyring" "book" "[LHostKeyring$Line;", Cond.fieldLink RX4 146 "HostKeyring" "day" "I", Cond.methodLink RX4 179 yX1_begin, Cond.instanceMethod yX1_begin, Cond.selects RX1 yX1_begin yX1_begin]
def wsX4_addHashed_r2 : List Cond := [Cond.initialized RX1, Cond.code yX1_begin cX1_begin 4 none, Cond.fieldLink RX1 17 "HostKeyring$Line" "mark" "I", Cond.fieldLink RX1 21 "HostKeyring$Line" "key" "I", Cond.fieldLink RX1 24 "HostKeyring$Line" "seen" "I", Cond.fieldLink RX1 27 "HostKeyring$Line" "end" "I", Cond.fieldLink RX1 30 "HostKeyring$Line" "patternCount" "I", Cond.fieldLink RX1 33 "HostKeyring$Line" "isHashed" "Z", Cond.methodLink RX4 62 yX1_takeHash, Cond.instanceMethod yX1_takeHash, Cond.selects RX1 yX1_takeHash yX1_takeHash, Cond.code yX1_takeHash cX1_takeHash 4 none, Cond.fieldLink RX1 51 "HostKeyring$Line" "hash" "I", Cond.fieldLink RX1 54 "HostKeyring$Line" "hashSalt" "I", Cond.fieldLink RX1 57 "HostKeyring$Line" "hashPort" "I", Cond.methodLink RX1 47 yX1_hashOf, Cond.static yX1_hashOf, Cond.code yX1_hashOf cX1_hashOf 2 (some .int)]
def wsX4_addHashed : List Cond := .code yX4_addHashed cX4_addHashed 6 (some .int) :: ((wsX4_addHashed_r1 ++ wsX4_addHashed_r2) ++ wsX40 ++ wsX10 ++ (vx_atS RX4 133 "java/lang/IllegalArgumentException" ["java/lang/RuntimeException", "java/lang/Exception"]).filter goodWord ++ (vx_atS RX4 78 "java/lang/IllegalStateException" ["java/lang/RuntimeException", "java/lang/Exception"]).filter goodWord)
def wsX4_takeOut : List Cond := .code yX4_takeOut cX4_takeOut 4 none :: ([.fieldLink RX4 11 "HostKeyring" "book" "[LHostKeyring$Line;", .fieldLink RX4 47 "HostKeyring" "lineCount" "I"] ++ wsX40)
def wsX4_remove : List Cond := .code yX4_remove cX4_remove 3 (some .int) :: ([.methodLink RX4 50 yX4_lineAt, .instanceMethod yX4_lineAt, .selects RX4 yX4_lineAt yX4_lineAt, .initialized RX4, .code yX4_lineAt cX4_lineAt 2 (some (.object "HostKeyring$Line")), .classLink RX4 170 "java/lang/IndexOutOfBoundsException", .initialized "java/lang/IndexOutOfBoundsException", .fieldLink RX4 47 "HostKeyring" "lineCount" "I", .fieldLink RX4 11 "HostKeyring" "book" "[LHostKeyring$Line;", .methodLink RX4 68 yX4_takeOut, .instanceMethod yX4_takeOut, .selects RX4 yX4_takeOut yX4_takeOut, .code yX4_takeOut cX4_takeOut 4 none] ++ wsX10 ++ wsX40 ++ (vx_atS RX4 174 "java/lang/IndexOutOfBoundsException" ["java/lang/RuntimeException", "java/lang/Exception"]).filter goodWord)
def wsX4_certify_r1 : List Cond := [Cond.classLink RX4 74 "java/lang/IllegalStateException", Cond.initialized "java/lang/IllegalStateException", Cond.fieldLink RX4 71 "HostKeyring" "certificateCount" "I", Cond.fieldLink RX4 17 "HostKeyring" "certificates" "[LHostKeyring$Certificate;", Cond.classLink RX4 15 RX0, Cond.instantiable RX0 7, Cond.initialized RX0, Cond.methodLink RX4 39 yX4_requireKey, Cond.static yX4_requireKey, Cond.initialized RX4, Cond.code yX4_requireKey cX4_requireKey 1 none, Cond.methodLink RX4 35 yX4_requireWithin, Cond.static yX4_requireWithin, Cond.code yX4_requireWithin cX4_requireWithin 3 none, Cond.classLink RX4 129 "java/lang/IllegalArgumentException", Cond.initialized "java/lang/IllegalArgumentException", Cond.methodLink RX4 81 yX0_init, Cond.instanceMethod yX0_init, Cond.code yX0_init cX0_init 8 none, Cond.methodLink RX0 1 objectInit, Cond.instanceMethod objectInit, Cond.code objectInit ⟨#[0xb1]⟩ 1 none, Cond.fieldLink RX0 7 "HostKeyring$Certificate" "authority" "I", Cond.fieldLink RX0 13 "HostKeyring$Certificate" "key" "I"]
def wsX4_certify_r2 : List Cond := [Cond.fieldLink RX0 16 "HostKeyring$Certificate" "name" "I", Cond.fieldLink RX0 19 "HostKeyring$Certificate" "places" "I", Cond.fieldLink RX0 22 "HostKeyring$Certificate" "serial" "I", Cond.fieldLink RX0 25 "HostKeyring$Certificate" "first" "I", Cond.fieldLink RX0 28 "HostKeyring$Certificate" "last" "I"]
def wsX4_certify : List Cond := .code yX4_certify cX4_certify 8 (some .int) :: ((wsX4_certify_r1 ++ wsX4_certify_r2) ++ wsX40 ++ wsX00 ++ (vx_atS RX4 78 "java/lang/IllegalStateException" ["java/lang/RuntimeException", "java/lang/Exception"]).filter goodWord ++ (vx_atS RX4 133 "java/lang/IllegalArgumentException" ["java/lang/RuntimeException", "java/lang/Exception"]).filter goodWord)
def wsX4_isInRevokedSpan : List Cond := .code yX4_isInRevokedSpan cX4_isInRevokedSpan 3 (some .boolean) :: ([.fieldLink RX4 84 "HostKeyring" "spanCount" "I", .fieldLink RX4 23 "HostKeyring" "spans" "[LHostKeyring$Span;", .methodLink RX4 248 yX3_holds, .instanceMethod yX3_holds, .selects RX3 yX3_holds yX3_holds, .initialized RX3, .code yX3_holds cX3_holds 3 (some .boolean), .fieldLink RX3 7 "HostKeyring$Span" "authority" "I", .fieldLink RX3 13 "HostKeyring$Span" "from" "I", .fieldLink RX3 16 "HostKeyring$Span" "to" "I"] ++ wsX40 ++ wsX00 ++ wsX30)
def wsX4_countRevokedCertificates : List Cond := .code yX4_countRevokedCertificates cX4_countRevokedCertificates 3 (some .int) :: ([.fieldLink RX4 71 "HostKeyring" "certificateCount" "I", .fieldLink RX4 17 "HostKeyring" "certificates" "[LHostKeyring$Certificate;", .methodLink RX4 238 yX4_isInRevokedSpan, .instanceMethod yX4_isInRevokedSpan, .selects RX4 yX4_isInRevokedSpan yX4_isInRevokedSpan, .initialized RX4, .code yX4_isInRevokedSpan cX4_isInRevokedSpan 3 (some .boolean), .fieldLink RX4 84 "HostKeyring" "spanCount" "I", .fieldLink RX4 23 "HostKeyring" "spans" "[LHostKeyring$Span;", .methodLink RX4 248 yX3_holds, .instanceMethod yX3_holds, .selects RX3 yX3_holds yX3_holds, .initialized RX3, .code yX3_holds cX3_holds 3 (some .boolean), .fieldLink RX3 7 "HostKeyring$Span" "authority" "I", .fieldLink RX3 13 "HostKeyring$Span" "from" "I", .fieldLink RX3 16 "HostKeyring$Span" "to" "I"] ++ wsX40 ++ wsX00 ++ wsX30)
def wsX4_revokeSpan_r1 : List Cond := [Cond.classLink RX4 74 "java/lang/IllegalStateException", Cond.initialized "java/lang/IllegalStateException", Cond.fieldLink RX4 84 "HostKeyring" "spanCount" "I", Cond.fieldLink RX4 23 "HostKeyring" "spans" "[LHostKeyring$Span;", Cond.classLink RX4 21 RX3, Cond.instantiable RX3 3, Cond.initialized RX3, Cond.methodLink RX4 39 yX4_requireKey, Cond.static yX4_requireKey, Cond.initialized RX4, Cond.code yX4_requireKey cX4_requireKey 1 none, Cond.methodLink RX4 35 yX4_requireWithin, Cond.static yX4_requireWithin, Cond.code yX4_requireWithin cX4_requireWithin 3 none, Cond.classLink RX4 129 "java/lang/IllegalArgumentException", Cond.initialized "java/lang/IllegalArgumentException", Cond.methodLink RX4 89 yX3_init, Cond.instanceMethod yX3_init, Cond.code yX3_init cX3_init 4 none, Cond.methodLink RX3 1 objectInit, Cond.instanceMethod objectInit, Cond.code objectInit ⟨#[0xb1]⟩ 1 none, Cond.fieldLink RX3 7 "HostKeyring$Span" "authority" "I", Cond.fieldLink RX3 13 "HostKeyring$Span" "from" "I"]
def wsX4_revokeSpan_r2 : List Cond := [Cond.fieldLink RX3 16 "HostKeyring$Span" "to" "I", Cond.methodLink RX4 91 yX4_countRevokedCertificates, Cond.instanceMethod yX4_countRevokedCertificates, Cond.selects RX4 yX4_countRevokedCertificates yX4_countRevokedCertificates, Cond.code yX4_countRevokedCertificates cX4_countRevokedCertificates 3 (some .int), Cond.fieldLink RX4 71 "HostKeyring" "certificateCount" "I", Cond.fieldLink RX4 17 "HostKeyring" "certificates" "[LHostKeyring$Certificate;", Cond.methodLink RX4 238 yX4_isInRevokedSpan, Cond.instanceMethod yX4_isInRevokedSpan, Cond.selects RX4 yX4_isInRevokedSpan yX4_isInRevokedSpan, Cond.code yX4_isInRevokedSpan cX4_isInRevokedSpan 3 (some .boolean), Cond.methodLink RX4 248 yX3_holds, Cond.instanceMethod yX3_holds, Cond.selects RX3 yX3_holds yX3_holds, Cond.code yX3_holds cX3_holds 3 (some .boolean)]
def wsX4_revokeSpan : List Cond := .code yX4_revokeSpan cX4_revokeSpan 4 (some .int) :: ((wsX4_revokeSpan_r1 ++ wsX4_revokeSpan_r2) ++ wsX40 ++ wsX30 ++ wsX00 ++ (vx_atS RX4 78 "java/lang/IllegalStateException" ["java/lang/RuntimeException", "java/lang/Exception"]).filter goodWord ++ (vx_atS RX4 133 "java/lang/IllegalArgumentException" ["java/lang/RuntimeException", "java/lang/Exception"]).filter goodWord)
def wsX4_setFirstSight : List Cond := .code yX4_setFirstSight cX4_setFirstSight 4 (some .int) :: ([.fieldLink RX4 27 "HostKeyring" "firstSight" "I", .fieldLink RX4 95 "HostKeyring" "isHashing" "Z", .methodLink RX4 35 yX4_requireWithin, .static yX4_requireWithin, .initialized RX4, .code yX4_requireWithin cX4_requireWithin 3 none, .classLink RX4 129 "java/lang/IllegalArgumentException", .initialized "java/lang/IllegalArgumentException"] ++ wsX40 ++ (vx_atS RX4 133 "java/lang/IllegalArgumentException" ["java/lang/RuntimeException", "java/lang/Exception"]).filter goodWord)
def wsX4_certificateAt : List Cond := .code yX4_certificateAt cX4_certificateAt 2 (some (.object "HostKeyring$Certificate")) :: ([.classLink RX4 170 "java/lang/IndexOutOfBoundsException", .initialized "java/lang/IndexOutOfBoundsException", .fieldLink RX4 71 "HostKeyring" "certificateCount" "I", .fieldLink RX4 17 "HostKeyring" "certificates" "[LHostKeyring$Certificate;"] ++ wsX40 ++ (vx_atS RX4 174 "java/lang/IndexOutOfBoundsException" ["java/lang/RuntimeException", "java/lang/Exception"]).filter goodWord)
def wsX4_authorityOf : List Cond := .code yX4_authorityOf cX4_authorityOf 1 (some .int) :: ([] ++ wsX00)
def wsX4_isLivePlain : List Cond := .code yX4_isLivePlain cX4_isLivePlain 2 (some .boolean) :: ([.fieldLink RX4 146 "HostKeyring" "day" "I", .methodLink RX4 193 yX1_hasEnded, .instanceMethod yX1_hasEnded, .selects RX1 yX1_hasEnded yX1_hasEnded, .initialized RX1, .code yX1_hasEnded cX1_hasEnded 2 (some .boolean), .fieldLink RX1 27 "HostKeyring$Line" "end" "I"] ++ wsX10 ++ wsX40)
def wsX4_kindOf : List Cond := .code yX4_kindOf cX4_kindOf 1 (some .int) :: ([])
def wsX4_judgementByMatch : List Cond := .code yX4_judgementByMatch cX4_judgementByMatch 4 (some .int) :: ([.methodLink RX4 197 yX1_hasEither, .instanceMethod yX1_hasEither, .selects RX1 yX1_hasEither yX1_hasEither, .initialized RX1, .code yX1_hasEither cX1_hasEither 3 (some .boolean), .fieldLink RX1 21 "HostKeyring$Line" "key" "I", .methodLink RX4 182 yX4_isLivePlain, .instanceMethod yX4_isLivePlain, .selects RX4 yX4_isLivePlain yX4_isLivePlain, .initialized RX4, .code yX4_isLivePlain cX4_isLivePlain 2 (some .boolean), .fieldLink RX4 146 "HostKeyring" "day" "I", .methodLink RX4 193 yX1_hasEnded, .instanceMethod yX1_hasEnded, .selects RX1 yX1_hasEnded yX1_hasEnded, .code yX1_hasEnded cX1_hasEnded 2 (some .boolean), .fieldLink RX1 27 "HostKeyring$Line" "end" "I", .methodLink RX4 215 yX4_kindOf, .static yX4_kindOf, .code yX4_kindOf cX4_kindOf 1 (some .int)] ++ wsX10 ++ wsX40)
def wsX4_judgementByLines_r1 : List Cond := [Cond.fieldLink RX4 47 "HostKeyring" "lineCount" "I", Cond.fieldLink RX4 11 "HostKeyring" "book" "[LHostKeyring$Line;", Cond.methodLink RX4 209 Lib.Math.min.name, Cond.static Lib.Math.min.name, Cond.initialized "java/lang/Math", Cond.code Lib.Math.min.name Lib.Math.min.code 2 (some .int), Cond.methodLink RX4 164 yX1_covers, Cond.instanceMethod yX1_covers, Cond.selects RX1 yX1_covers yX1_covers, Cond.initialized RX1, Cond.code yX1_covers cX1_covers 6 (some .boolean), Cond.fieldLink RX1 33 "HostKeyring$Line" "isHashed" "Z", Cond.fieldLink RX1 57 "HostKeyring$Line" "hashPort" "I", Cond.fieldLink RX1 54 "HostKeyring$Line" "hashSalt" "I", Cond.fieldLink RX1 51 "HostKeyring$Line" "hash" "I", Cond.fieldLink RX1 30 "HostKeyring$Line" "patternCount" "I", Cond.fieldLink RX1 11 "HostKeyring$Line" "patterns" "[LHostKeyring$Pattern;", Cond.methodLink RX1 47 yX1_hashOf, Cond.static yX1_hashOf, Cond.code yX1_hashOf cX1_hashOf 2 (some .int), Cond.methodLink RX1 60 yX2_fits, Cond.instanceMethod yX2_fits, Cond.selects RX2 yX2_fits yX2_fits, Cond.initialized RX2]
def wsX4_judgementByLines_r2 : List Cond := [Cond.code yX2_fits cX2_fits 3 (some .boolean), Cond.fieldLink RX2 16 "HostKeyring$Pattern" "port" "I", Cond.fieldLink RX2 13 "HostKeyring$Pattern" "places" "I", Cond.fieldLink RX2 7 "HostKeyring$Pattern" "name" "I", Cond.static yX4_isSameAt, Cond.initialized RX4, Cond.code yX4_isSameAt cX4_isSameAt 7 (some .boolean), Cond.methodLink RX4 205 yX4_judgementByMatch, Cond.instanceMethod yX4_judgementByMatch, Cond.selects RX4 yX4_judgementByMatch yX4_judgementByMatch, Cond.code yX4_judgementByMatch cX4_judgementByMatch 4 (some .int), Cond.methodLink RX4 197 yX1_hasEither, Cond.instanceMethod yX1_hasEither, Cond.selects RX1 yX1_hasEither yX1_hasEither, Cond.code yX1_hasEither cX1_hasEither 3 (some .boolean), Cond.fieldLink RX1 21 "HostKeyring$Line" "key" "I", Cond.methodLink RX4 182 yX4_isLivePlain, Cond.instanceMethod yX4_isLivePlain, Cond.selects RX4 yX4_isLivePlain yX4_isLivePlain, Cond.code yX4_isLivePlain cX4_isLivePlain 2 (some .boolean), Cond.fieldLink RX4 146 "HostKeyring" "day" "I", Cond.methodLink RX4 193 yX1_hasEnded, Cond.instanceMethod yX1_hasEnded, Cond.selects RX1 yX1_hasEnded yX1_hasEnded]
def wsX4_judgementByLines_r3 : List Cond := [Cond.code yX1_hasEnded cX1_hasEnded 2 (some .boolean), Cond.fieldLink RX1 27 "HostKeyring$Line" "end" "I", Cond.methodLink RX4 215 yX4_kindOf, Cond.static yX4_kindOf, Cond.code yX4_kindOf cX4_kindOf 1 (some .int)]
def wsX4_judgementByLines : List Cond := .code yX4_judgementByLines cX4_judgementByLines 7 (some .int) :: ((wsX4_judgementByLines_r1 ++ (wsX4_judgementByLines_r2 ++ wsX4_judgementByLines_r3)) ++ wsX40 ++ wsX10 ++ wsX20)
def wsX4_hasAuthority_r1 : List Cond := [Cond.fieldLink RX4 47 "HostKeyring" "lineCount" "I", Cond.fieldLink RX4 11 "HostKeyring" "book" "[LHostKeyring$Line;", Cond.fieldLink RX4 146 "HostKeyring" "day" "I", Cond.methodLink RX4 193 yX1_hasEnded, Cond.instanceMethod yX1_hasEnded, Cond.selects RX1 yX1_hasEnded yX1_hasEnded, Cond.initialized RX1, Cond.code yX1_hasEnded cX1_hasEnded 2 (some .boolean), Cond.fieldLink RX1 27 "HostKeyring$Line" "end" "I", Cond.methodLink RX4 164 yX1_covers, Cond.instanceMethod yX1_covers, Cond.selects RX1 yX1_covers yX1_covers, Cond.code yX1_covers cX1_covers 6 (some .boolean), Cond.fieldLink RX1 33 "HostKeyring$Line" "isHashed" "Z", Cond.fieldLink RX1 57 "HostKeyring$Line" "hashPort" "I", Cond.fieldLink RX1 54 "HostKeyring$Line" "hashSalt" "I", Cond.fieldLink RX1 51 "HostKeyring$Line" "hash" "I", Cond.fieldLink RX1 30 "HostKeyring$Line" "patternCount" "I", Cond.fieldLink RX1 11 "HostKeyring$Line" "patterns" "[LHostKeyring$Pattern;", Cond.methodLink RX1 47 yX1_hashOf, Cond.static yX1_hashOf, Cond.code yX1_hashOf cX1_hashOf 2 (some .int), Cond.methodLink RX1 60 yX2_fits, Cond.instanceMethod yX2_fits]
def wsX4_hasAuthority_r2 : List Cond := [Cond.selects RX2 yX2_fits yX2_fits, Cond.initialized RX2, Cond.code yX2_fits cX2_fits 3 (some .boolean), Cond.fieldLink RX2 16 "HostKeyring$Pattern" "port" "I", Cond.fieldLink RX2 13 "HostKeyring$Pattern" "places" "I", Cond.fieldLink RX2 7 "HostKeyring$Pattern" "name" "I", Cond.static yX4_isSameAt, Cond.initialized RX4, Cond.code yX4_isSameAt cX4_isSameAt 7 (some .boolean)]
def wsX4_hasAuthority : List Cond := .code yX4_hasAuthority cX4_hasAuthority 6 (some .boolean) :: ((wsX4_hasAuthority_r1 ++ wsX4_hasAuthority_r2) ++ wsX40 ++ wsX10 ++ wsX20)
def wsX4_isGood_r1 : List Cond := [Cond.fieldLink RX4 146 "HostKeyring" "day" "I", Cond.methodLink RX4 228 yX4_isSameAt, Cond.static yX4_isSameAt, Cond.initialized RX4, Cond.code yX4_isSameAt cX4_isSameAt 7 (some .boolean), Cond.methodLink RX4 238 yX4_isInRevokedSpan, Cond.instanceMethod yX4_isInRevokedSpan, Cond.selects RX4 yX4_isInRevokedSpan yX4_isInRevokedSpan, Cond.code yX4_isInRevokedSpan cX4_isInRevokedSpan 3 (some .boolean), Cond.fieldLink RX4 84 "HostKeyring" "spanCount" "I", Cond.fieldLink RX4 23 "HostKeyring" "spans" "[LHostKeyring$Span;", Cond.methodLink RX4 248 yX3_holds, Cond.instanceMethod yX3_holds, Cond.selects RX3 yX3_holds yX3_holds, Cond.initialized RX3, Cond.code yX3_holds cX3_holds 3 (some .boolean), Cond.fieldLink RX3 7 "HostKeyring$Span" "authority" "I", Cond.fieldLink RX3 13 "HostKeyring$Span" "from" "I", Cond.fieldLink RX3 16 "HostKeyring$Span" "to" "I", Cond.methodLink RX4 242 yX4_hasAuthority, Cond.instanceMethod yX4_hasAuthority, Cond.selects RX4 yX4_hasAuthority yX4_hasAuthority, Cond.code yX4_hasAuthority cX4_hasAuthority 6 (some .boolean), Cond.fieldLink RX4 47 "HostKeyring" "lineCount" "I"]
def wsX4_isGood_r2 : List Cond := [Cond.fieldLink RX4 11 "HostKeyring" "book" "[LHostKeyring$Line;", Cond.methodLink RX4 193 yX1_hasEnded, Cond.instanceMethod yX1_hasEnded, Cond.selects RX1 yX1_hasEnded yX1_hasEnded, Cond.initialized RX1, Cond.code yX1_hasEnded cX1_hasEnded 2 (some .boolean), Cond.fieldLink RX1 27 "HostKeyring$Line" "end" "I", Cond.methodLink RX4 164 yX1_covers, Cond.instanceMethod yX1_covers, Cond.selects RX1 yX1_covers yX1_covers, Cond.code yX1_covers cX1_covers 6 (some .boolean), Cond.fieldLink RX1 33 "HostKeyring$Line" "isHashed" "Z", Cond.fieldLink RX1 57 "HostKeyring$Line" "hashPort" "I", Cond.fieldLink RX1 54 "HostKeyring$Line" "hashSalt" "I", Cond.fieldLink RX1 51 "HostKeyring$Line" "hash" "I", Cond.fieldLink RX1 30 "HostKeyring$Line" "patternCount" "I", Cond.fieldLink RX1 11 "HostKeyring$Line" "patterns" "[LHostKeyring$Pattern;", Cond.methodLink RX1 47 yX1_hashOf, Cond.static yX1_hashOf, Cond.code yX1_hashOf cX1_hashOf 2 (some .int), Cond.methodLink RX1 60 yX2_fits, Cond.instanceMethod yX2_fits, Cond.selects RX2 yX2_fits yX2_fits, Cond.initialized RX2]
def wsX4_isGood_r3 : List Cond := [Cond.code yX2_fits cX2_fits 3 (some .boolean), Cond.fieldLink RX2 16 "HostKeyring$Pattern" "port" "I", Cond.fieldLink RX2 13 "HostKeyring$Pattern" "places" "I", Cond.fieldLink RX2 7 "HostKeyring$Pattern" "name" "I"]
def wsX4_isGood : List Cond := .code yX4_isGood cX4_isGood 4 (some .boolean) :: ((wsX4_isGood_r1 ++ (wsX4_isGood_r2 ++ wsX4_isGood_r3)) ++ wsX00 ++ wsX40 ++ wsX30 ++ wsX10 ++ wsX20)
def wsX4_judgementOf_r1 : List Cond := [Cond.methodLink RX4 107 yX4_authorityOf, Cond.static yX4_authorityOf, Cond.initialized RX4, Cond.code yX4_authorityOf cX4_authorityOf 1 (some .int), Cond.methodLink RX4 134 yX4_judgementByLines, Cond.instanceMethod yX4_judgementByLines, Cond.selects RX4 yX4_judgementByLines yX4_judgementByLines, Cond.code yX4_judgementByLines cX4_judgementByLines 7 (some .int), Cond.fieldLink RX4 47 "HostKeyring" "lineCount" "I", Cond.fieldLink RX4 11 "HostKeyring" "book" "[LHostKeyring$Line;", Cond.methodLink RX4 209 Lib.Math.min.name, Cond.static Lib.Math.min.name, Cond.initialized "java/lang/Math", Cond.code Lib.Math.min.name Lib.Math.min.code 2 (some .int), Cond.methodLink RX4 164 yX1_covers, Cond.instanceMethod yX1_covers, Cond.selects RX1 yX1_covers yX1_covers, Cond.initialized RX1, Cond.code yX1_covers cX1_covers 6 (some .boolean), Cond.fieldLink RX1 33 "HostKeyring$Line" "isHashed" "Z", Cond.fieldLink RX1 57 "HostKeyring$Line" "hashPort" "I", Cond.fieldLink RX1 54 "HostKeyring$Line" "hashSalt" "I", Cond.fieldLink RX1 51 "HostKeyring$Line" "hash" "I", Cond.fieldLink RX1 30 "HostKeyring$Line" "patternCount" "I"]
def wsX4_judgementOf_r2 : List Cond := [Cond.fieldLink RX1 11 "HostKeyring$Line" "patterns" "[LHostKeyring$Pattern;", Cond.methodLink RX1 47 yX1_hashOf, Cond.static yX1_hashOf, Cond.code yX1_hashOf cX1_hashOf 2 (some .int), Cond.methodLink RX1 60 yX2_fits, Cond.instanceMethod yX2_fits, Cond.selects RX2 yX2_fits yX2_fits, Cond.initialized RX2, Cond.code yX2_fits cX2_fits 3 (some .boolean), Cond.fieldLink RX2 16 "HostKeyring$Pattern" "port" "I", Cond.fieldLink RX2 13 "HostKeyring$Pattern" "places" "I", Cond.fieldLink RX2 7 "HostKeyring$Pattern" "name" "I", Cond.static yX4_isSameAt, Cond.code yX4_isSameAt cX4_isSameAt 7 (some .boolean), Cond.methodLink RX4 205 yX4_judgementByMatch, Cond.instanceMethod yX4_judgementByMatch, Cond.selects RX4 yX4_judgementByMatch yX4_judgementByMatch, Cond.code yX4_judgementByMatch cX4_judgementByMatch 4 (some .int), Cond.methodLink RX4 197 yX1_hasEither, Cond.instanceMethod yX1_hasEither, Cond.selects RX1 yX1_hasEither yX1_hasEither, Cond.code yX1_hasEither cX1_hasEither 3 (some .boolean), Cond.fieldLink RX1 21 "HostKeyring$Line" "key" "I", Cond.methodLink RX4 182 yX4_isLivePlain]
def wsX4_judgementOf_r3 : List Cond := [Cond.instanceMethod yX4_isLivePlain, Cond.selects RX4 yX4_isLivePlain yX4_isLivePlain, Cond.code yX4_isLivePlain cX4_isLivePlain 2 (some .boolean), Cond.fieldLink RX4 146 "HostKeyring" "day" "I", Cond.methodLink RX4 193 yX1_hasEnded, Cond.instanceMethod yX1_hasEnded, Cond.selects RX1 yX1_hasEnded yX1_hasEnded, Cond.code yX1_hasEnded cX1_hasEnded 2 (some .boolean), Cond.fieldLink RX1 27 "HostKeyring$Line" "end" "I", Cond.methodLink RX4 215 yX4_kindOf, Cond.static yX4_kindOf, Cond.code yX4_kindOf cX4_kindOf 1 (some .int), Cond.methodLink RX4 201 yX4_isGood, Cond.instanceMethod yX4_isGood, Cond.selects RX4 yX4_isGood yX4_isGood, Cond.code yX4_isGood cX4_isGood 4 (some .boolean), Cond.methodLink RX4 228 yX4_isSameAt, Cond.methodLink RX4 238 yX4_isInRevokedSpan, Cond.instanceMethod yX4_isInRevokedSpan, Cond.selects RX4 yX4_isInRevokedSpan yX4_isInRevokedSpan, Cond.code yX4_isInRevokedSpan cX4_isInRevokedSpan 3 (some .boolean), Cond.fieldLink RX4 84 "HostKeyring" "spanCount" "I", Cond.fieldLink RX4 23 "HostKeyring" "spans" "[LHostKeyring$Span;", Cond.methodLink RX4 248 yX3_holds]
def wsX4_judgementOf_r4 : List Cond := [Cond.instanceMethod yX3_holds, Cond.selects RX3 yX3_holds yX3_holds, Cond.initialized RX3, Cond.code yX3_holds cX3_holds 3 (some .boolean), Cond.fieldLink RX3 7 "HostKeyring$Span" "authority" "I", Cond.fieldLink RX3 13 "HostKeyring$Span" "from" "I", Cond.fieldLink RX3 16 "HostKeyring$Span" "to" "I", Cond.methodLink RX4 242 yX4_hasAuthority, Cond.instanceMethod yX4_hasAuthority, Cond.selects RX4 yX4_hasAuthority yX4_hasAuthority, Cond.code yX4_hasAuthority cX4_hasAuthority 6 (some .boolean)]
def wsX4_judgementOf : List Cond := .code yX4_judgementOf cX4_judgementOf 6 (some .int) :: ((wsX4_judgementOf_r1 ++ (wsX4_judgementOf_r2 ++ (wsX4_judgementOf_r3 ++ wsX4_judgementOf_r4))) ++ wsX00 ++ wsX40 ++ wsX10 ++ wsX20 ++ wsX30)
def wsX4_seeToday_r1 : List Cond := [Cond.fieldLink RX4 47 "HostKeyring" "lineCount" "I", Cond.fieldLink RX4 11 "HostKeyring" "book" "[LHostKeyring$Line;", Cond.fieldLink RX4 146 "HostKeyring" "day" "I", Cond.methodLink RX4 193 yX1_hasEnded, Cond.instanceMethod yX1_hasEnded, Cond.selects RX1 yX1_hasEnded yX1_hasEnded, Cond.initialized RX1, Cond.code yX1_hasEnded cX1_hasEnded 2 (some .boolean), Cond.fieldLink RX1 27 "HostKeyring$Line" "end" "I", Cond.methodLink RX4 197 yX1_hasEither, Cond.instanceMethod yX1_hasEither, Cond.selects RX1 yX1_hasEither yX1_hasEither, Cond.code yX1_hasEither cX1_hasEither 3 (some .boolean), Cond.fieldLink RX1 21 "HostKeyring$Line" "key" "I", Cond.methodLink RX4 164 yX1_covers, Cond.instanceMethod yX1_covers, Cond.selects RX1 yX1_covers yX1_covers, Cond.code yX1_covers cX1_covers 6 (some .boolean), Cond.fieldLink RX1 33 "HostKeyring$Line" "isHashed" "Z", Cond.fieldLink RX1 57 "HostKeyring$Line" "hashPort" "I", Cond.fieldLink RX1 54 "HostKeyring$Line" "hashSalt" "I", Cond.fieldLink RX1 51 "HostKeyring$Line" "hash" "I", Cond.fieldLink RX1 30 "HostKeyring$Line" "patternCount" "I", Cond.fieldLink RX1 11 "HostKeyring$Line" "patterns" "[LHostKeyring$Pattern;"]
def wsX4_seeToday_r2 : List Cond := [Cond.methodLink RX1 47 yX1_hashOf, Cond.static yX1_hashOf, Cond.code yX1_hashOf cX1_hashOf 2 (some .int), Cond.methodLink RX1 60 yX2_fits, Cond.instanceMethod yX2_fits, Cond.selects RX2 yX2_fits yX2_fits, Cond.initialized RX2, Cond.code yX2_fits cX2_fits 3 (some .boolean), Cond.fieldLink RX2 16 "HostKeyring$Pattern" "port" "I", Cond.fieldLink RX2 13 "HostKeyring$Pattern" "places" "I", Cond.fieldLink RX2 7 "HostKeyring$Pattern" "name" "I", Cond.static yX4_isSameAt, Cond.initialized RX4, Cond.code yX4_isSameAt cX4_isSameAt 7 (some .boolean)]
def wsX4_seeToday : List Cond := .code yX4_seeToday cX4_seeToday 7 none :: ((wsX4_seeToday_r1 ++ wsX4_seeToday_r2) ++ wsX40 ++ wsX10 ++ wsX20)
def wsX4_letWait : List Cond := .code yX4_letWait cX4_letWait 4 none :: ([.fieldLink RX4 123 "HostKeyring" "waitingName" "I", .fieldLink RX4 126 "HostKeyring" "waitingPort" "I", .fieldLink RX4 31 "HostKeyring" "waitingKey" "I"] ++ wsX40)
def wsX4_appendSighted_r1 : List Cond := [Cond.fieldLink RX4 95 "HostKeyring" "isHashing" "Z", Cond.methodLink RX4 43 yX4_appendLine, Cond.instanceMethod yX4_appendLine, Cond.selects RX4 yX4_appendLine yX4_appendLine, Cond.initialized RX4, Cond.code yX4_appendLine cX4_appendLine 4 (some (.object "HostKeyring$Line")), Cond.classLink RX4 74 "java/lang/IllegalStateException", Cond.initialized "java/lang/IllegalStateException", Cond.fieldLink RX4 47 "HostKeyring" "lineCount" "I", Cond.fieldLink RX4 11 "HostKeyring" "book" "[LHostKeyring$Line;", Cond.fieldLink RX4 146 "HostKeyring" "day" "I", Cond.methodLink RX4 179 yX1_begin, Cond.instanceMethod yX1_begin, Cond.selects RX1 yX1_begin yX1_begin, Cond.initialized RX1, Cond.code yX1_begin cX1_begin 4 none, Cond.fieldLink RX1 17 "HostKeyring$Line" "mark" "I", Cond.fieldLink RX1 21 "HostKeyring$Line" "key" "I", Cond.fieldLink RX1 24 "HostKeyring$Line" "seen" "I", Cond.fieldLink RX1 27 "HostKeyring$Line" "end" "I", Cond.fieldLink RX1 30 "HostKeyring$Line" "patternCount" "I", Cond.fieldLink RX1 33 "HostKeyring$Line" "isHashed" "Z", Cond.methodLink RX4 62 yX1_takeHash, Cond.instanceMethod yX1_takeHash]
def wsX4_appendSighted_r2 : List Cond := [Cond.selects RX1 yX1_takeHash yX1_takeHash, Cond.code yX1_takeHash cX1_takeHash 4 none, Cond.fieldLink RX1 51 "HostKeyring$Line" "hash" "I", Cond.fieldLink RX1 54 "HostKeyring$Line" "hashSalt" "I", Cond.fieldLink RX1 57 "HostKeyring$Line" "hashPort" "I", Cond.methodLink RX1 47 yX1_hashOf, Cond.static yX1_hashOf, Cond.code yX1_hashOf cX1_hashOf 2 (some .int), Cond.methodLink RX4 58 yX1_takePattern, Cond.instanceMethod yX1_takePattern, Cond.selects RX1 yX1_takePattern yX1_takePattern, Cond.code yX1_takePattern cX1_takePattern 5 (some .int), Cond.classLink RX1 37 "java/lang/IllegalStateException", Cond.fieldLink RX1 11 "HostKeyring$Line" "patterns" "[LHostKeyring$Pattern;", Cond.classLink RX1 9 RX2, Cond.instantiable RX2 4, Cond.initialized RX2, Cond.methodLink RX1 44 yX2_init, Cond.instanceMethod yX2_init, Cond.code yX2_init cX2_init 5 none, Cond.methodLink RX2 1 objectInit, Cond.instanceMethod objectInit, Cond.code objectInit ⟨#[0xb1]⟩ 1 none, Cond.fieldLink RX2 7 "HostKeyring$Pattern" "name" "I"]
def wsX4_appendSighted_r3 : List Cond := [Cond.fieldLink RX2 13 "HostKeyring$Pattern" "places" "I", Cond.fieldLink RX2 16 "HostKeyring$Pattern" "port" "I", Cond.fieldLink RX2 19 "HostKeyring$Pattern" "isDenied" "Z"]
def wsX4_appendSighted : List Cond := .code yX4_appendSighted cX4_appendSighted 5 none :: ((wsX4_appendSighted_r1 ++ (wsX4_appendSighted_r2 ++ wsX4_appendSighted_r3)) ++ wsX40 ++ wsX10 ++ wsX20 ++ (vx_atS RX4 78 "java/lang/IllegalStateException" ["java/lang/RuntimeException", "java/lang/Exception"]).filter goodWord ++ (vx_atS RX1 41 "java/lang/IllegalStateException" ["java/lang/RuntimeException", "java/lang/Exception"]).filter goodWord)
def wsX4_answer_r1 : List Cond := [Cond.fieldLink RX4 31 "HostKeyring" "waitingKey" "I", Cond.fieldLink RX4 27 "HostKeyring" "firstSight" "I", Cond.fieldLink RX4 47 "HostKeyring" "lineCount" "I", Cond.methodLink RX4 99 yX4_certificateAt, Cond.instanceMethod yX4_certificateAt, Cond.selects RX4 yX4_certificateAt yX4_certificateAt, Cond.initialized RX4, Cond.code yX4_certificateAt cX4_certificateAt 2 (some (.object "HostKeyring$Certificate")), Cond.classLink RX4 170 "java/lang/IndexOutOfBoundsException", Cond.initialized "java/lang/IndexOutOfBoundsException", Cond.fieldLink RX4 71 "HostKeyring" "certificateCount" "I", Cond.fieldLink RX4 17 "HostKeyring" "certificates" "[LHostKeyring$Certificate;", Cond.methodLink RX4 54 yX4_requireNameAndPort, Cond.static yX4_requireNameAndPort, Cond.code yX4_requireNameAndPort cX4_requireNameAndPort 2 none, Cond.methodLink RX4 35 yX4_requireWithin, Cond.static yX4_requireWithin, Cond.code yX4_requireWithin cX4_requireWithin 3 none, Cond.classLink RX4 129 "java/lang/IllegalArgumentException", Cond.initialized "java/lang/IllegalArgumentException", Cond.methodLink RX4 39 yX4_requireKey, Cond.static yX4_requireKey, Cond.code yX4_requireKey cX4_requireKey 1 none, Cond.methodLink RX4 103 yX4_judgementOf]
def wsX4_answer_r2 : List Cond := [Cond.instanceMethod yX4_judgementOf, Cond.selects RX4 yX4_judgementOf yX4_judgementOf, Cond.code yX4_judgementOf cX4_judgementOf 6 (some .int), Cond.methodLink RX4 107 yX4_authorityOf, Cond.static yX4_authorityOf, Cond.code yX4_authorityOf cX4_authorityOf 1 (some .int), Cond.methodLink RX4 134 yX4_judgementByLines, Cond.instanceMethod yX4_judgementByLines, Cond.selects RX4 yX4_judgementByLines yX4_judgementByLines, Cond.code yX4_judgementByLines cX4_judgementByLines 7 (some .int), Cond.fieldLink RX4 11 "HostKeyring" "book" "[LHostKeyring$Line;", Cond.methodLink RX4 209 Lib.Math.min.name, Cond.static Lib.Math.min.name, Cond.initialized "java/lang/Math", Cond.code Lib.Math.min.name Lib.Math.min.code 2 (some .int), Cond.methodLink RX4 164 yX1_covers, Cond.instanceMethod yX1_covers, Cond.selects RX1 yX1_covers yX1_covers, Cond.initialized RX1, Cond.code yX1_covers cX1_covers 6 (some .boolean), Cond.fieldLink RX1 33 "HostKeyring$Line" "isHashed" "Z", Cond.fieldLink RX1 57 "HostKeyring$Line" "hashPort" "I", Cond.fieldLink RX1 54 "HostKeyring$Line" "hashSalt" "I", Cond.fieldLink RX1 51 "HostKeyring$Line" "hash" "I"]
def wsX4_answer_r3 : List Cond := [Cond.fieldLink RX1 30 "HostKeyring$Line" "patternCount" "I", Cond.fieldLink RX1 11 "HostKeyring$Line" "patterns" "[LHostKeyring$Pattern;", Cond.methodLink RX1 47 yX1_hashOf, Cond.static yX1_hashOf, Cond.code yX1_hashOf cX1_hashOf 2 (some .int), Cond.methodLink RX1 60 yX2_fits, Cond.instanceMethod yX2_fits, Cond.selects RX2 yX2_fits yX2_fits, Cond.initialized RX2, Cond.code yX2_fits cX2_fits 3 (some .boolean), Cond.fieldLink RX2 16 "HostKeyring$Pattern" "port" "I", Cond.fieldLink RX2 13 "HostKeyring$Pattern" "places" "I", Cond.fieldLink RX2 7 "HostKeyring$Pattern" "name" "I", Cond.static yX4_isSameAt, Cond.code yX4_isSameAt cX4_isSameAt 7 (some .boolean), Cond.methodLink RX4 205 yX4_judgementByMatch, Cond.instanceMethod yX4_judgementByMatch, Cond.selects RX4 yX4_judgementByMatch yX4_judgementByMatch, Cond.code yX4_judgementByMatch cX4_judgementByMatch 4 (some .int), Cond.methodLink RX4 197 yX1_hasEither, Cond.instanceMethod yX1_hasEither, Cond.selects RX1 yX1_hasEither yX1_hasEither, Cond.code yX1_hasEither cX1_hasEither 3 (some .boolean), Cond.fieldLink RX1 21 "HostKeyring$Line" "key" "I"]
def wsX4_answer_r4 : List Cond := [Cond.methodLink RX4 182 yX4_isLivePlain, Cond.instanceMethod yX4_isLivePlain, Cond.selects RX4 yX4_isLivePlain yX4_isLivePlain, Cond.code yX4_isLivePlain cX4_isLivePlain 2 (some .boolean), Cond.fieldLink RX4 146 "HostKeyring" "day" "I", Cond.methodLink RX4 193 yX1_hasEnded, Cond.instanceMethod yX1_hasEnded, Cond.selects RX1 yX1_hasEnded yX1_hasEnded, Cond.code yX1_hasEnded cX1_hasEnded 2 (some .boolean), Cond.fieldLink RX1 27 "HostKeyring$Line" "end" "I", Cond.methodLink RX4 215 yX4_kindOf, Cond.static yX4_kindOf, Cond.code yX4_kindOf cX4_kindOf 1 (some .int), Cond.methodLink RX4 201 yX4_isGood, Cond.instanceMethod yX4_isGood, Cond.selects RX4 yX4_isGood yX4_isGood, Cond.code yX4_isGood cX4_isGood 4 (some .boolean), Cond.methodLink RX4 228 yX4_isSameAt, Cond.methodLink RX4 238 yX4_isInRevokedSpan, Cond.instanceMethod yX4_isInRevokedSpan, Cond.selects RX4 yX4_isInRevokedSpan yX4_isInRevokedSpan, Cond.code yX4_isInRevokedSpan cX4_isInRevokedSpan 3 (some .boolean), Cond.fieldLink RX4 84 "HostKeyring" "spanCount" "I", Cond.fieldLink RX4 23 "HostKeyring" "spans" "[LHostKeyring$Span;"]
def wsX4_answer_r5 : List Cond := [Cond.methodLink RX4 248 yX3_holds, Cond.instanceMethod yX3_holds, Cond.selects RX3 yX3_holds yX3_holds, Cond.initialized RX3, Cond.code yX3_holds cX3_holds 3 (some .boolean), Cond.fieldLink RX3 7 "HostKeyring$Span" "authority" "I", Cond.fieldLink RX3 13 "HostKeyring$Span" "from" "I", Cond.fieldLink RX3 16 "HostKeyring$Span" "to" "I", Cond.methodLink RX4 242 yX4_hasAuthority, Cond.instanceMethod yX4_hasAuthority, Cond.selects RX4 yX4_hasAuthority yX4_hasAuthority, Cond.code yX4_hasAuthority cX4_hasAuthority 6 (some .boolean), Cond.methodLink RX4 111 yX4_seeToday, Cond.instanceMethod yX4_seeToday, Cond.selects RX4 yX4_seeToday yX4_seeToday, Cond.code yX4_seeToday cX4_seeToday 7 none, Cond.methodLink RX4 115 yX4_letWait, Cond.instanceMethod yX4_letWait, Cond.selects RX4 yX4_letWait yX4_letWait, Cond.code yX4_letWait cX4_letWait 4 none, Cond.fieldLink RX4 123 "HostKeyring" "waitingName" "I", Cond.fieldLink RX4 126 "HostKeyring" "waitingPort" "I", Cond.methodLink RX4 118 yX4_appendSighted, Cond.instanceMethod yX4_appendSighted]
def wsX4_answer_r6 : List Cond := [Cond.selects RX4 yX4_appendSighted yX4_appendSighted, Cond.code yX4_appendSighted cX4_appendSighted 5 none, Cond.fieldLink RX4 95 "HostKeyring" "isHashing" "Z", Cond.methodLink RX4 43 yX4_appendLine, Cond.instanceMethod yX4_appendLine, Cond.selects RX4 yX4_appendLine yX4_appendLine, Cond.code yX4_appendLine cX4_appendLine 4 (some (.object "HostKeyring$Line")), Cond.classLink RX4 74 "java/lang/IllegalStateException", Cond.initialized "java/lang/IllegalStateException", Cond.methodLink RX4 179 yX1_begin, Cond.instanceMethod yX1_begin, Cond.selects RX1 yX1_begin yX1_begin, Cond.code yX1_begin cX1_begin 4 none, Cond.fieldLink RX1 17 "HostKeyring$Line" "mark" "I", Cond.fieldLink RX1 24 "HostKeyring$Line" "seen" "I", Cond.methodLink RX4 62 yX1_takeHash, Cond.instanceMethod yX1_takeHash, Cond.selects RX1 yX1_takeHash yX1_takeHash, Cond.code yX1_takeHash cX1_takeHash 4 none, Cond.methodLink RX4 58 yX1_takePattern, Cond.instanceMethod yX1_takePattern, Cond.selects RX1 yX1_takePattern yX1_takePattern, Cond.code yX1_takePattern cX1_takePattern 5 (some .int), Cond.classLink RX1 37 "java/lang/IllegalStateException"]
def wsX4_answer_r7 : List Cond := [Cond.classLink RX1 9 RX2, Cond.instantiable RX2 4, Cond.methodLink RX1 44 yX2_init, Cond.instanceMethod yX2_init, Cond.code yX2_init cX2_init 5 none, Cond.methodLink RX2 1 objectInit, Cond.instanceMethod objectInit, Cond.code objectInit ⟨#[0xb1]⟩ 1 none, Cond.fieldLink RX2 19 "HostKeyring$Pattern" "isDenied" "Z"]
def wsX4_answer : List Cond := .code yX4_answer cX4_answer 7 (some .int) :: ((wsX4_answer_r1 ++ (wsX4_answer_r2 ++ (wsX4_answer_r3 ++ (wsX4_answer_r4 ++ (wsX4_answer_r5 ++ (wsX4_answer_r6 ++ wsX4_answer_r7)))))) ++ wsX40 ++ wsX00 ++ wsX10 ++ wsX20 ++ wsX30 ++ (vx_atS RX4 174 "java/lang/IndexOutOfBoundsException" ["java/lang/RuntimeException", "java/lang/Exception"]).filter goodWord ++ (vx_atS RX4 133 "java/lang/IllegalArgumentException" ["java/lang/RuntimeException", "java/lang/Exception"]).filter goodWord ++ (vx_atS RX4 78 "java/lang/IllegalStateException" ["java/lang/RuntimeException", "java/lang/Exception"]).filter goodWord ++ (vx_atS RX1 41 "java/lang/IllegalStateException" ["java/lang/RuntimeException", "java/lang/Exception"]).filter goodWord)
def wsX4_confirm_r1 : List Cond := [Cond.classLink RX4 74 "java/lang/IllegalStateException", Cond.initialized "java/lang/IllegalStateException", Cond.fieldLink RX4 31 "HostKeyring" "waitingKey" "I", Cond.fieldLink RX4 123 "HostKeyring" "waitingName" "I", Cond.fieldLink RX4 126 "HostKeyring" "waitingPort" "I", Cond.fieldLink RX4 47 "HostKeyring" "lineCount" "I", Cond.methodLink RX4 118 yX4_appendSighted, Cond.instanceMethod yX4_appendSighted, Cond.selects RX4 yX4_appendSighted yX4_appendSighted, Cond.initialized RX4, Cond.code yX4_appendSighted cX4_appendSighted 5 none, Cond.fieldLink RX4 95 "HostKeyring" "isHashing" "Z", Cond.methodLink RX4 43 yX4_appendLine, Cond.instanceMethod yX4_appendLine, Cond.selects RX4 yX4_appendLine yX4_appendLine, Cond.code yX4_appendLine cX4_appendLine 4 (some (.object "HostKeyring$Line")), Cond.fieldLink RX4 11 "HostKeyring" "book" "[LHostKeyring$Line;", Cond.fieldLink RX4 146 "HostKeyring" "day" "I", Cond.methodLink RX4 179 yX1_begin, Cond.instanceMethod yX1_begin, Cond.selects RX1 yX1_begin yX1_begin, Cond.initialized RX1, Cond.code yX1_begin cX1_begin 4 none, Cond.fieldLink RX1 17 "HostKeyring$Line" "mark" "I"]
def wsX4_confirm_r2 : List Cond := [Cond.fieldLink RX1 21 "HostKeyring$Line" "key" "I", Cond.fieldLink RX1 24 "HostKeyring$Line" "seen" "I", Cond.fieldLink RX1 27 "HostKeyring$Line" "end" "I", Cond.fieldLink RX1 30 "HostKeyring$Line" "patternCount" "I", Cond.fieldLink RX1 33 "HostKeyring$Line" "isHashed" "Z", Cond.methodLink RX4 62 yX1_takeHash, Cond.instanceMethod yX1_takeHash, Cond.selects RX1 yX1_takeHash yX1_takeHash, Cond.code yX1_takeHash cX1_takeHash 4 none, Cond.fieldLink RX1 51 "HostKeyring$Line" "hash" "I", Cond.fieldLink RX1 54 "HostKeyring$Line" "hashSalt" "I", Cond.fieldLink RX1 57 "HostKeyring$Line" "hashPort" "I", Cond.methodLink RX1 47 yX1_hashOf, Cond.static yX1_hashOf, Cond.code yX1_hashOf cX1_hashOf 2 (some .int), Cond.methodLink RX4 58 yX1_takePattern, Cond.instanceMethod yX1_takePattern, Cond.selects RX1 yX1_takePattern yX1_takePattern, Cond.code yX1_takePattern cX1_takePattern 5 (some .int), Cond.classLink RX1 37 "java/lang/IllegalStateException", Cond.fieldLink RX1 11 "HostKeyring$Line" "patterns" "[LHostKeyring$Pattern;", Cond.classLink RX1 9 RX2, Cond.instantiable RX2 4, Cond.initialized RX2]
def wsX4_confirm_r3 : List Cond := [Cond.methodLink RX1 44 yX2_init, Cond.instanceMethod yX2_init, Cond.code yX2_init cX2_init 5 none, Cond.methodLink RX2 1 objectInit, Cond.instanceMethod objectInit, Cond.code objectInit ⟨#[0xb1]⟩ 1 none, Cond.fieldLink RX2 7 "HostKeyring$Pattern" "name" "I", Cond.fieldLink RX2 13 "HostKeyring$Pattern" "places" "I", Cond.fieldLink RX2 16 "HostKeyring$Pattern" "port" "I", Cond.fieldLink RX2 19 "HostKeyring$Pattern" "isDenied" "Z"]
def wsX4_confirm : List Cond := .code yX4_confirm cX4_confirm 1 (some .int) :: ((wsX4_confirm_r1 ++ (wsX4_confirm_r2 ++ wsX4_confirm_r3)) ++ wsX40 ++ wsX10 ++ wsX20 ++ (vx_atS RX4 78 "java/lang/IllegalStateException" ["java/lang/RuntimeException", "java/lang/Exception"]).filter goodWord ++ (vx_atS RX1 41 "java/lang/IllegalStateException" ["java/lang/RuntimeException", "java/lang/Exception"]).filter goodWord)
def wsX4_turnLines_r1 : List Cond := [Cond.fieldLink RX4 47 "HostKeyring" "lineCount" "I", Cond.fieldLink RX4 11 "HostKeyring" "book" "[LHostKeyring$Line;", Cond.fieldLink RX4 146 "HostKeyring" "day" "I", Cond.methodLink RX4 182 yX4_isLivePlain, Cond.instanceMethod yX4_isLivePlain, Cond.selects RX4 yX4_isLivePlain yX4_isLivePlain, Cond.initialized RX4, Cond.code yX4_isLivePlain cX4_isLivePlain 2 (some .boolean), Cond.methodLink RX4 193 yX1_hasEnded, Cond.instanceMethod yX1_hasEnded, Cond.selects RX1 yX1_hasEnded yX1_hasEnded, Cond.initialized RX1, Cond.code yX1_hasEnded cX1_hasEnded 2 (some .boolean), Cond.fieldLink RX1 27 "HostKeyring$Line" "end" "I", Cond.methodLink RX4 164 yX1_covers, Cond.instanceMethod yX1_covers, Cond.selects RX1 yX1_covers yX1_covers, Cond.code yX1_covers cX1_covers 6 (some .boolean), Cond.fieldLink RX1 33 "HostKeyring$Line" "isHashed" "Z", Cond.fieldLink RX1 57 "HostKeyring$Line" "hashPort" "I", Cond.fieldLink RX1 54 "HostKeyring$Line" "hashSalt" "I", Cond.fieldLink RX1 51 "HostKeyring$Line" "hash" "I", Cond.fieldLink RX1 30 "HostKeyring$Line" "patternCount" "I", Cond.fieldLink RX1 11 "HostKeyring$Line" "patterns" "[LHostKeyring$Pattern;"]
def wsX4_turnLines_r2 : List Cond := [Cond.methodLink RX1 47 yX1_hashOf, Cond.static yX1_hashOf, Cond.code yX1_hashOf cX1_hashOf 2 (some .int), Cond.methodLink RX1 60 yX2_fits, Cond.instanceMethod yX2_fits, Cond.selects RX2 yX2_fits yX2_fits, Cond.initialized RX2, Cond.code yX2_fits cX2_fits 3 (some .boolean), Cond.fieldLink RX2 16 "HostKeyring$Pattern" "port" "I", Cond.fieldLink RX2 13 "HostKeyring$Pattern" "places" "I", Cond.fieldLink RX2 7 "HostKeyring$Pattern" "name" "I", Cond.static yX4_isSameAt, Cond.code yX4_isSameAt cX4_isSameAt 7 (some .boolean), Cond.methodLink RX4 43 yX4_appendLine, Cond.instanceMethod yX4_appendLine, Cond.selects RX4 yX4_appendLine yX4_appendLine, Cond.code yX4_appendLine cX4_appendLine 4 (some (.object "HostKeyring$Line")), Cond.classLink RX4 74 "java/lang/IllegalStateException", Cond.initialized "java/lang/IllegalStateException", Cond.methodLink RX4 179 yX1_begin, Cond.instanceMethod yX1_begin, Cond.selects RX1 yX1_begin yX1_begin, Cond.code yX1_begin cX1_begin 4 none, Cond.fieldLink RX1 17 "HostKeyring$Line" "mark" "I"]
def wsX4_turnLines_r3 : List Cond := [Cond.fieldLink RX1 21 "HostKeyring$Line" "key" "I", Cond.fieldLink RX1 24 "HostKeyring$Line" "seen" "I", Cond.methodLink RX4 186 yX1_takeMatching, Cond.instanceMethod yX1_takeMatching, Cond.selects RX1 yX1_takeMatching yX1_takeMatching, Cond.code yX1_takeMatching cX1_takeMatching 3 none, Cond.methodLink RX4 190 yX1_endBy, Cond.instanceMethod yX1_endBy, Cond.selects RX1 yX1_endBy yX1_endBy, Cond.code yX1_endBy cX1_endBy 2 none]
def wsX4_turnLines : List Cond := .code yX4_turnLines cX4_turnLines 9 (some .int) :: ((wsX4_turnLines_r1 ++ (wsX4_turnLines_r2 ++ wsX4_turnLines_r3)) ++ wsX40 ++ wsX10 ++ wsX20 ++ (vx_atS RX4 78 "java/lang/IllegalStateException" ["java/lang/RuntimeException", "java/lang/Exception"]).filter goodWord)
def wsX4_turn_r1 : List Cond := [Cond.classLink RX4 129 "java/lang/IllegalArgumentException", Cond.initialized "java/lang/IllegalArgumentException", Cond.classLink RX4 74 "java/lang/IllegalStateException", Cond.initialized "java/lang/IllegalStateException", Cond.methodLink RX4 54 yX4_requireNameAndPort, Cond.static yX4_requireNameAndPort, Cond.initialized RX4, Cond.code yX4_requireNameAndPort cX4_requireNameAndPort 2 none, Cond.methodLink RX4 35 yX4_requireWithin, Cond.static yX4_requireWithin, Cond.code yX4_requireWithin cX4_requireWithin 3 none, Cond.methodLink RX4 39 yX4_requireKey, Cond.static yX4_requireKey, Cond.code yX4_requireKey cX4_requireKey 1 none, Cond.methodLink RX4 134 yX4_judgementByLines, Cond.instanceMethod yX4_judgementByLines, Cond.selects RX4 yX4_judgementByLines yX4_judgementByLines, Cond.code yX4_judgementByLines cX4_judgementByLines 7 (some .int), Cond.fieldLink RX4 47 "HostKeyring" "lineCount" "I", Cond.fieldLink RX4 11 "HostKeyring" "book" "[LHostKeyring$Line;", Cond.methodLink RX4 209 Lib.Math.min.name, Cond.static Lib.Math.min.name, Cond.initialized "java/lang/Math", Cond.code Lib.Math.min.name Lib.Math.min.code 2 (some .int)]
def wsX4_turn_r2 : List Cond := [Cond.methodLink RX4 164 yX1_covers, Cond.instanceMethod yX1_covers, Cond.selects RX1 yX1_covers yX1_covers, Cond.initialized RX1, Cond.code yX1_covers cX1_covers 6 (some .boolean), Cond.fieldLink RX1 33 "HostKeyring$Line" "isHashed" "Z", Cond.fieldLink RX1 57 "HostKeyring$Line" "hashPort" "I", Cond.fieldLink RX1 54 "HostKeyring$Line" "hashSalt" "I", Cond.fieldLink RX1 51 "HostKeyring$Line" "hash" "I", Cond.fieldLink RX1 30 "HostKeyring$Line" "patternCount" "I", Cond.fieldLink RX1 11 "HostKeyring$Line" "patterns" "[LHostKeyring$Pattern;", Cond.methodLink RX1 47 yX1_hashOf, Cond.static yX1_hashOf, Cond.code yX1_hashOf cX1_hashOf 2 (some .int), Cond.methodLink RX1 60 yX2_fits, Cond.instanceMethod yX2_fits, Cond.selects RX2 yX2_fits yX2_fits, Cond.initialized RX2, Cond.code yX2_fits cX2_fits 3 (some .boolean), Cond.fieldLink RX2 16 "HostKeyring$Pattern" "port" "I", Cond.fieldLink RX2 13 "HostKeyring$Pattern" "places" "I", Cond.fieldLink RX2 7 "HostKeyring$Pattern" "name" "I", Cond.static yX4_isSameAt, Cond.code yX4_isSameAt cX4_isSameAt 7 (some .boolean)]
def wsX4_turn_r3 : List Cond := [Cond.methodLink RX4 205 yX4_judgementByMatch, Cond.instanceMethod yX4_judgementByMatch, Cond.selects RX4 yX4_judgementByMatch yX4_judgementByMatch, Cond.code yX4_judgementByMatch cX4_judgementByMatch 4 (some .int), Cond.methodLink RX4 197 yX1_hasEither, Cond.instanceMethod yX1_hasEither, Cond.selects RX1 yX1_hasEither yX1_hasEither, Cond.code yX1_hasEither cX1_hasEither 3 (some .boolean), Cond.fieldLink RX1 21 "HostKeyring$Line" "key" "I", Cond.methodLink RX4 182 yX4_isLivePlain, Cond.instanceMethod yX4_isLivePlain, Cond.selects RX4 yX4_isLivePlain yX4_isLivePlain, Cond.code yX4_isLivePlain cX4_isLivePlain 2 (some .boolean), Cond.fieldLink RX4 146 "HostKeyring" "day" "I", Cond.methodLink RX4 193 yX1_hasEnded, Cond.instanceMethod yX1_hasEnded, Cond.selects RX1 yX1_hasEnded yX1_hasEnded, Cond.code yX1_hasEnded cX1_hasEnded 2 (some .boolean), Cond.fieldLink RX1 27 "HostKeyring$Line" "end" "I", Cond.methodLink RX4 215 yX4_kindOf, Cond.static yX4_kindOf, Cond.code yX4_kindOf cX4_kindOf 1 (some .int), Cond.methodLink RX4 142 yX4_turnLines, Cond.instanceMethod yX4_turnLines]
def wsX4_turn_r4 : List Cond := [Cond.selects RX4 yX4_turnLines yX4_turnLines, Cond.code yX4_turnLines cX4_turnLines 9 (some .int), Cond.methodLink RX4 43 yX4_appendLine, Cond.instanceMethod yX4_appendLine, Cond.selects RX4 yX4_appendLine yX4_appendLine, Cond.code yX4_appendLine cX4_appendLine 4 (some (.object "HostKeyring$Line")), Cond.methodLink RX4 179 yX1_begin, Cond.instanceMethod yX1_begin, Cond.selects RX1 yX1_begin yX1_begin, Cond.code yX1_begin cX1_begin 4 none, Cond.fieldLink RX1 17 "HostKeyring$Line" "mark" "I", Cond.fieldLink RX1 24 "HostKeyring$Line" "seen" "I", Cond.methodLink RX4 186 yX1_takeMatching, Cond.instanceMethod yX1_takeMatching, Cond.selects RX1 yX1_takeMatching yX1_takeMatching, Cond.code yX1_takeMatching cX1_takeMatching 3 none, Cond.methodLink RX4 190 yX1_endBy, Cond.instanceMethod yX1_endBy, Cond.selects RX1 yX1_endBy yX1_endBy, Cond.code yX1_endBy cX1_endBy 2 none]
def wsX4_turn : List Cond := .code yX4_turn cX4_turn 6 (some .int) :: ((wsX4_turn_r1 ++ (wsX4_turn_r2 ++ (wsX4_turn_r3 ++ wsX4_turn_r4))) ++ wsX40 ++ wsX10 ++ wsX20 ++ (vx_atS RX4 133 "java/lang/IllegalArgumentException" ["java/lang/RuntimeException", "java/lang/Exception"]).filter goodWord ++ (vx_atS RX4 78 "java/lang/IllegalStateException" ["java/lang/RuntimeException", "java/lang/Exception"]).filter goodWord)
def wsX4_pass : List Cond := .code yX4_pass cX4_pass 2 (some .int) :: ([.classLink RX4 74 "java/lang/IllegalStateException", .initialized "java/lang/IllegalStateException", .fieldLink RX4 146 "HostKeyring" "day" "I", .methodLink RX4 35 yX4_requireWithin, .static yX4_requireWithin, .initialized RX4, .code yX4_requireWithin cX4_requireWithin 3 none, .classLink RX4 129 "java/lang/IllegalArgumentException", .initialized "java/lang/IllegalArgumentException"] ++ wsX40 ++ (vx_atS RX4 78 "java/lang/IllegalStateException" ["java/lang/RuntimeException", "java/lang/Exception"]).filter goodWord ++ (vx_atS RX4 133 "java/lang/IllegalArgumentException" ["java/lang/RuntimeException", "java/lang/Exception"]).filter goodWord)
def wsX4_isToBeCleaned : List Cond := .code yX4_isToBeCleaned cX4_isToBeCleaned 3 (some .boolean) :: ([.fieldLink RX4 146 "HostKeyring" "day" "I", .methodLink RX4 193 yX1_hasEnded, .instanceMethod yX1_hasEnded, .selects RX1 yX1_hasEnded yX1_hasEnded, .initialized RX1, .code yX1_hasEnded cX1_hasEnded 2 (some .boolean), .fieldLink RX1 27 "HostKeyring$Line" "end" "I"] ++ wsX10 ++ wsX40)
def wsX4_clean : List Cond := .code yX4_clean cX4_clean 4 (some .int) :: ([.fieldLink RX4 47 "HostKeyring" "lineCount" "I", .fieldLink RX4 11 "HostKeyring" "book" "[LHostKeyring$Line;", .methodLink RX4 35 yX4_requireWithin, .static yX4_requireWithin, .initialized RX4, .code yX4_requireWithin cX4_requireWithin 3 none, .classLink RX4 129 "java/lang/IllegalArgumentException", .initialized "java/lang/IllegalArgumentException", .methodLink RX4 151 yX4_isToBeCleaned, .instanceMethod yX4_isToBeCleaned, .selects RX4 yX4_isToBeCleaned yX4_isToBeCleaned, .code yX4_isToBeCleaned cX4_isToBeCleaned 3 (some .boolean), .fieldLink RX4 146 "HostKeyring" "day" "I", .methodLink RX4 193 yX1_hasEnded, .instanceMethod yX1_hasEnded, .selects RX1 yX1_hasEnded yX1_hasEnded, .initialized RX1, .code yX1_hasEnded cX1_hasEnded 2 (some .boolean), .fieldLink RX1 27 "HostKeyring$Line" "end" "I", .methodLink RX4 68 yX4_takeOut, .instanceMethod yX4_takeOut, .selects RX4 yX4_takeOut yX4_takeOut, .code yX4_takeOut cX4_takeOut 4 none] ++ wsX40 ++ wsX10 ++ (vx_atS RX4 133 "java/lang/IllegalArgumentException" ["java/lang/RuntimeException", "java/lang/Exception"]).filter goodWord)
def wsX4_judge_r1 : List Cond := [Cond.methodLink RX4 99 yX4_certificateAt, Cond.instanceMethod yX4_certificateAt, Cond.selects RX4 yX4_certificateAt yX4_certificateAt, Cond.initialized RX4, Cond.code yX4_certificateAt cX4_certificateAt 2 (some (.object "HostKeyring$Certificate")), Cond.classLink RX4 170 "java/lang/IndexOutOfBoundsException", Cond.initialized "java/lang/IndexOutOfBoundsException", Cond.fieldLink RX4 71 "HostKeyring" "certificateCount" "I", Cond.fieldLink RX4 17 "HostKeyring" "certificates" "[LHostKeyring$Certificate;", Cond.methodLink RX4 54 yX4_requireNameAndPort, Cond.static yX4_requireNameAndPort, Cond.code yX4_requireNameAndPort cX4_requireNameAndPort 2 none, Cond.methodLink RX4 35 yX4_requireWithin, Cond.static yX4_requireWithin, Cond.code yX4_requireWithin cX4_requireWithin 3 none, Cond.classLink RX4 129 "java/lang/IllegalArgumentException", Cond.initialized "java/lang/IllegalArgumentException", Cond.methodLink RX4 39 yX4_requireKey, Cond.static yX4_requireKey, Cond.code yX4_requireKey cX4_requireKey 1 none, Cond.methodLink RX4 103 yX4_judgementOf, Cond.instanceMethod yX4_judgementOf, Cond.selects RX4 yX4_judgementOf yX4_judgementOf, Cond.code yX4_judgementOf cX4_judgementOf 6 (some .int)]
def wsX4_judge_r2 : List Cond := [Cond.methodLink RX4 107 yX4_authorityOf, Cond.static yX4_authorityOf, Cond.code yX4_authorityOf cX4_authorityOf 1 (some .int), Cond.methodLink RX4 134 yX4_judgementByLines, Cond.instanceMethod yX4_judgementByLines, Cond.selects RX4 yX4_judgementByLines yX4_judgementByLines, Cond.code yX4_judgementByLines cX4_judgementByLines 7 (some .int), Cond.fieldLink RX4 47 "HostKeyring" "lineCount" "I", Cond.fieldLink RX4 11 "HostKeyring" "book" "[LHostKeyring$Line;", Cond.methodLink RX4 209 Lib.Math.min.name, Cond.static Lib.Math.min.name, Cond.initialized "java/lang/Math", Cond.code Lib.Math.min.name Lib.Math.min.code 2 (some .int), Cond.methodLink RX4 164 yX1_covers, Cond.instanceMethod yX1_covers, Cond.selects RX1 yX1_covers yX1_covers, Cond.initialized RX1, Cond.code yX1_covers cX1_covers 6 (some .boolean), Cond.fieldLink RX1 33 "HostKeyring$Line" "isHashed" "Z", Cond.fieldLink RX1 57 "HostKeyring$Line" "hashPort" "I", Cond.fieldLink RX1 54 "HostKeyring$Line" "hashSalt" "I", Cond.fieldLink RX1 51 "HostKeyring$Line" "hash" "I", Cond.fieldLink RX1 30 "HostKeyring$Line" "patternCount" "I", Cond.fieldLink RX1 11 "HostKeyring$Line" "patterns" "[LHostKeyring$Pattern;"]
def wsX4_judge_r3 : List Cond := [Cond.methodLink RX1 47 yX1_hashOf, Cond.static yX1_hashOf, Cond.code yX1_hashOf cX1_hashOf 2 (some .int), Cond.methodLink RX1 60 yX2_fits, Cond.instanceMethod yX2_fits, Cond.selects RX2 yX2_fits yX2_fits, Cond.initialized RX2, Cond.code yX2_fits cX2_fits 3 (some .boolean), Cond.fieldLink RX2 16 "HostKeyring$Pattern" "port" "I", Cond.fieldLink RX2 13 "HostKeyring$Pattern" "places" "I", Cond.fieldLink RX2 7 "HostKeyring$Pattern" "name" "I", Cond.static yX4_isSameAt, Cond.code yX4_isSameAt cX4_isSameAt 7 (some .boolean), Cond.methodLink RX4 205 yX4_judgementByMatch, Cond.instanceMethod yX4_judgementByMatch, Cond.selects RX4 yX4_judgementByMatch yX4_judgementByMatch, Cond.code yX4_judgementByMatch cX4_judgementByMatch 4 (some .int), Cond.methodLink RX4 197 yX1_hasEither, Cond.instanceMethod yX1_hasEither, Cond.selects RX1 yX1_hasEither yX1_hasEither, Cond.code yX1_hasEither cX1_hasEither 3 (some .boolean), Cond.fieldLink RX1 21 "HostKeyring$Line" "key" "I", Cond.methodLink RX4 182 yX4_isLivePlain, Cond.instanceMethod yX4_isLivePlain]
def wsX4_judge_r4 : List Cond := [Cond.selects RX4 yX4_isLivePlain yX4_isLivePlain, Cond.code yX4_isLivePlain cX4_isLivePlain 2 (some .boolean), Cond.fieldLink RX4 146 "HostKeyring" "day" "I", Cond.methodLink RX4 193 yX1_hasEnded, Cond.instanceMethod yX1_hasEnded, Cond.selects RX1 yX1_hasEnded yX1_hasEnded, Cond.code yX1_hasEnded cX1_hasEnded 2 (some .boolean), Cond.fieldLink RX1 27 "HostKeyring$Line" "end" "I", Cond.methodLink RX4 215 yX4_kindOf, Cond.static yX4_kindOf, Cond.code yX4_kindOf cX4_kindOf 1 (some .int), Cond.methodLink RX4 201 yX4_isGood, Cond.instanceMethod yX4_isGood, Cond.selects RX4 yX4_isGood yX4_isGood, Cond.code yX4_isGood cX4_isGood 4 (some .boolean), Cond.methodLink RX4 228 yX4_isSameAt, Cond.methodLink RX4 238 yX4_isInRevokedSpan, Cond.instanceMethod yX4_isInRevokedSpan, Cond.selects RX4 yX4_isInRevokedSpan yX4_isInRevokedSpan, Cond.code yX4_isInRevokedSpan cX4_isInRevokedSpan 3 (some .boolean), Cond.fieldLink RX4 84 "HostKeyring" "spanCount" "I", Cond.fieldLink RX4 23 "HostKeyring" "spans" "[LHostKeyring$Span;", Cond.methodLink RX4 248 yX3_holds, Cond.instanceMethod yX3_holds]
def wsX4_judge_r5 : List Cond := [Cond.selects RX3 yX3_holds yX3_holds, Cond.initialized RX3, Cond.code yX3_holds cX3_holds 3 (some .boolean), Cond.fieldLink RX3 7 "HostKeyring$Span" "authority" "I", Cond.fieldLink RX3 13 "HostKeyring$Span" "from" "I", Cond.fieldLink RX3 16 "HostKeyring$Span" "to" "I", Cond.methodLink RX4 242 yX4_hasAuthority, Cond.instanceMethod yX4_hasAuthority, Cond.selects RX4 yX4_hasAuthority yX4_hasAuthority, Cond.code yX4_hasAuthority cX4_hasAuthority 6 (some .boolean)]
def wsX4_judge : List Cond := .code yX4_judge cX4_judge 6 (some .int) :: ((wsX4_judge_r1 ++ (wsX4_judge_r2 ++ (wsX4_judge_r3 ++ (wsX4_judge_r4 ++ wsX4_judge_r5)))) ++ wsX40 ++ wsX00 ++ wsX10 ++ wsX20 ++ wsX30 ++ (vx_atS RX4 174 "java/lang/IndexOutOfBoundsException" ["java/lang/RuntimeException", "java/lang/Exception"]).filter goodWord ++ (vx_atS RX4 133 "java/lang/IllegalArgumentException" ["java/lang/RuntimeException", "java/lang/Exception"]).filter goodWord)
def wsX4_judgeByReading_r1 : List Cond := [Cond.methodLink RX4 54 yX4_requireNameAndPort, Cond.static yX4_requireNameAndPort, Cond.initialized RX4, Cond.code yX4_requireNameAndPort cX4_requireNameAndPort 2 none, Cond.methodLink RX4 35 yX4_requireWithin, Cond.static yX4_requireWithin, Cond.code yX4_requireWithin cX4_requireWithin 3 none, Cond.classLink RX4 129 "java/lang/IllegalArgumentException", Cond.initialized "java/lang/IllegalArgumentException", Cond.methodLink RX4 39 yX4_requireKey, Cond.static yX4_requireKey, Cond.code yX4_requireKey cX4_requireKey 1 none, Cond.methodLink RX4 134 yX4_judgementByLines, Cond.instanceMethod yX4_judgementByLines, Cond.selects RX4 yX4_judgementByLines yX4_judgementByLines, Cond.code yX4_judgementByLines cX4_judgementByLines 7 (some .int), Cond.fieldLink RX4 47 "HostKeyring" "lineCount" "I", Cond.fieldLink RX4 11 "HostKeyring" "book" "[LHostKeyring$Line;", Cond.methodLink RX4 209 Lib.Math.min.name, Cond.static Lib.Math.min.name, Cond.initialized "java/lang/Math", Cond.code Lib.Math.min.name Lib.Math.min.code 2 (some .int), Cond.methodLink RX4 164 yX1_covers, Cond.instanceMethod yX1_covers]
def wsX4_judgeByReading_r2 : List Cond := [Cond.selects RX1 yX1_covers yX1_covers, Cond.initialized RX1, Cond.code yX1_covers cX1_covers 6 (some .boolean), Cond.fieldLink RX1 33 "HostKeyring$Line" "isHashed" "Z", Cond.fieldLink RX1 57 "HostKeyring$Line" "hashPort" "I", Cond.fieldLink RX1 54 "HostKeyring$Line" "hashSalt" "I", Cond.fieldLink RX1 51 "HostKeyring$Line" "hash" "I", Cond.fieldLink RX1 30 "HostKeyring$Line" "patternCount" "I", Cond.fieldLink RX1 11 "HostKeyring$Line" "patterns" "[LHostKeyring$Pattern;", Cond.methodLink RX1 47 yX1_hashOf, Cond.static yX1_hashOf, Cond.code yX1_hashOf cX1_hashOf 2 (some .int), Cond.methodLink RX1 60 yX2_fits, Cond.instanceMethod yX2_fits, Cond.selects RX2 yX2_fits yX2_fits, Cond.initialized RX2, Cond.code yX2_fits cX2_fits 3 (some .boolean), Cond.fieldLink RX2 16 "HostKeyring$Pattern" "port" "I", Cond.fieldLink RX2 13 "HostKeyring$Pattern" "places" "I", Cond.fieldLink RX2 7 "HostKeyring$Pattern" "name" "I", Cond.static yX4_isSameAt, Cond.code yX4_isSameAt cX4_isSameAt 7 (some .boolean), Cond.methodLink RX4 205 yX4_judgementByMatch, Cond.instanceMethod yX4_judgementByMatch]
def wsX4_judgeByReading_r3 : List Cond := [Cond.selects RX4 yX4_judgementByMatch yX4_judgementByMatch, Cond.code yX4_judgementByMatch cX4_judgementByMatch 4 (some .int), Cond.methodLink RX4 197 yX1_hasEither, Cond.instanceMethod yX1_hasEither, Cond.selects RX1 yX1_hasEither yX1_hasEither, Cond.code yX1_hasEither cX1_hasEither 3 (some .boolean), Cond.fieldLink RX1 21 "HostKeyring$Line" "key" "I", Cond.methodLink RX4 182 yX4_isLivePlain, Cond.instanceMethod yX4_isLivePlain, Cond.selects RX4 yX4_isLivePlain yX4_isLivePlain, Cond.code yX4_isLivePlain cX4_isLivePlain 2 (some .boolean), Cond.fieldLink RX4 146 "HostKeyring" "day" "I", Cond.methodLink RX4 193 yX1_hasEnded, Cond.instanceMethod yX1_hasEnded, Cond.selects RX1 yX1_hasEnded yX1_hasEnded, Cond.code yX1_hasEnded cX1_hasEnded 2 (some .boolean), Cond.fieldLink RX1 27 "HostKeyring$Line" "end" "I", Cond.methodLink RX4 215 yX4_kindOf, Cond.static yX4_kindOf, Cond.code yX4_kindOf cX4_kindOf 1 (some .int)]
def wsX4_judgeByReading : List Cond := .code yX4_judgeByReading cX4_judgeByReading 4 (some .int) :: ((wsX4_judgeByReading_r1 ++ (wsX4_judgeByReading_r2 ++ wsX4_judgeByReading_r3)) ++ wsX40 ++ wsX10 ++ wsX20 ++ (vx_atS RX4 133 "java/lang/IllegalArgumentException" ["java/lang/RuntimeException", "java/lang/Exception"]).filter goodWord)
def wsX4_day : List Cond := .code yX4_day cX4_day 1 (some .int) :: ([.fieldLink RX4 146 "HostKeyring" "day" "I"] ++ wsX40)
def wsX4_lines : List Cond := .code yX4_lines cX4_lines 1 (some .int) :: ([.fieldLink RX4 47 "HostKeyring" "lineCount" "I"] ++ wsX40)
def wsX4_keyOf : List Cond := .code yX4_keyOf cX4_keyOf 3 (some .int) :: ([.methodLink RX4 50 yX4_lineAt, .instanceMethod yX4_lineAt, .selects RX4 yX4_lineAt yX4_lineAt, .initialized RX4, .code yX4_lineAt cX4_lineAt 2 (some (.object "HostKeyring$Line")), .classLink RX4 170 "java/lang/IndexOutOfBoundsException", .initialized "java/lang/IndexOutOfBoundsException", .fieldLink RX4 47 "HostKeyring" "lineCount" "I", .fieldLink RX4 11 "HostKeyring" "book" "[LHostKeyring$Line;"] ++ wsX10 ++ wsX40 ++ (vx_atS RX4 174 "java/lang/IndexOutOfBoundsException" ["java/lang/RuntimeException", "java/lang/Exception"]).filter goodWord)
def wsX4_seen : List Cond := .code yX4_seen cX4_seen 2 (some .int) :: ([.methodLink RX4 50 yX4_lineAt, .instanceMethod yX4_lineAt, .selects RX4 yX4_lineAt yX4_lineAt, .initialized RX4, .code yX4_lineAt cX4_lineAt 2 (some (.object "HostKeyring$Line")), .classLink RX4 170 "java/lang/IndexOutOfBoundsException", .initialized "java/lang/IndexOutOfBoundsException", .fieldLink RX4 47 "HostKeyring" "lineCount" "I", .fieldLink RX4 11 "HostKeyring" "book" "[LHostKeyring$Line;"] ++ wsX10 ++ wsX40 ++ (vx_atS RX4 174 "java/lang/IndexOutOfBoundsException" ["java/lang/RuntimeException", "java/lang/Exception"]).filter goodWord)
def wsX4_end : List Cond := .code yX4_end cX4_end 2 (some .int) :: ([.methodLink RX4 50 yX4_lineAt, .instanceMethod yX4_lineAt, .selects RX4 yX4_lineAt yX4_lineAt, .initialized RX4, .code yX4_lineAt cX4_lineAt 2 (some (.object "HostKeyring$Line")), .classLink RX4 170 "java/lang/IndexOutOfBoundsException", .initialized "java/lang/IndexOutOfBoundsException", .fieldLink RX4 47 "HostKeyring" "lineCount" "I", .fieldLink RX4 11 "HostKeyring" "book" "[LHostKeyring$Line;"] ++ wsX10 ++ wsX40 ++ (vx_atS RX4 174 "java/lang/IndexOutOfBoundsException" ["java/lang/RuntimeException", "java/lang/Exception"]).filter goodWord)
def wsX4_matches_r1 : List Cond := [Cond.methodLink RX4 50 yX4_lineAt, Cond.instanceMethod yX4_lineAt, Cond.selects RX4 yX4_lineAt yX4_lineAt, Cond.initialized RX4, Cond.code yX4_lineAt cX4_lineAt 2 (some (.object "HostKeyring$Line")), Cond.classLink RX4 170 "java/lang/IndexOutOfBoundsException", Cond.initialized "java/lang/IndexOutOfBoundsException", Cond.fieldLink RX4 47 "HostKeyring" "lineCount" "I", Cond.fieldLink RX4 11 "HostKeyring" "book" "[LHostKeyring$Line;", Cond.methodLink RX4 54 yX4_requireNameAndPort, Cond.static yX4_requireNameAndPort, Cond.code yX4_requireNameAndPort cX4_requireNameAndPort 2 none, Cond.methodLink RX4 35 yX4_requireWithin, Cond.static yX4_requireWithin, Cond.code yX4_requireWithin cX4_requireWithin 3 none, Cond.classLink RX4 129 "java/lang/IllegalArgumentException", Cond.initialized "java/lang/IllegalArgumentException", Cond.methodLink RX4 164 yX1_covers, Cond.instanceMethod yX1_covers, Cond.selects RX1 yX1_covers yX1_covers, Cond.initialized RX1, Cond.code yX1_covers cX1_covers 6 (some .boolean), Cond.fieldLink RX1 33 "HostKeyring$Line" "isHashed" "Z", Cond.fieldLink RX1 57 "HostKeyring$Line" "hashPort" "I"]
def wsX4_matches_r2 : List Cond := [Cond.fieldLink RX1 54 "HostKeyring$Line" "hashSalt" "I", Cond.fieldLink RX1 51 "HostKeyring$Line" "hash" "I", Cond.fieldLink RX1 30 "HostKeyring$Line" "patternCount" "I", Cond.fieldLink RX1 11 "HostKeyring$Line" "patterns" "[LHostKeyring$Pattern;", Cond.methodLink RX1 47 yX1_hashOf, Cond.static yX1_hashOf, Cond.code yX1_hashOf cX1_hashOf 2 (some .int), Cond.methodLink RX1 60 yX2_fits, Cond.instanceMethod yX2_fits, Cond.selects RX2 yX2_fits yX2_fits, Cond.initialized RX2, Cond.code yX2_fits cX2_fits 3 (some .boolean), Cond.fieldLink RX2 16 "HostKeyring$Pattern" "port" "I", Cond.fieldLink RX2 13 "HostKeyring$Pattern" "places" "I", Cond.fieldLink RX2 7 "HostKeyring$Pattern" "name" "I", Cond.static yX4_isSameAt, Cond.code yX4_isSameAt cX4_isSameAt 7 (some .boolean)]
def wsX4_matches : List Cond := .code yX4_matches cX4_matches 5 (some .boolean) :: ((wsX4_matches_r1 ++ wsX4_matches_r2) ++ wsX40 ++ wsX10 ++ wsX20 ++ (vx_atS RX4 174 "java/lang/IndexOutOfBoundsException" ["java/lang/RuntimeException", "java/lang/Exception"]).filter goodWord ++ (vx_atS RX4 133 "java/lang/IllegalArgumentException" ["java/lang/RuntimeException", "java/lang/Exception"]).filter goodWord)
def wsX4_find_r1 : List Cond := [Cond.fieldLink RX4 47 "HostKeyring" "lineCount" "I", Cond.fieldLink RX4 11 "HostKeyring" "book" "[LHostKeyring$Line;", Cond.methodLink RX4 54 yX4_requireNameAndPort, Cond.static yX4_requireNameAndPort, Cond.initialized RX4, Cond.code yX4_requireNameAndPort cX4_requireNameAndPort 2 none, Cond.methodLink RX4 35 yX4_requireWithin, Cond.static yX4_requireWithin, Cond.code yX4_requireWithin cX4_requireWithin 3 none, Cond.classLink RX4 129 "java/lang/IllegalArgumentException", Cond.initialized "java/lang/IllegalArgumentException", Cond.methodLink RX4 164 yX1_covers, Cond.instanceMethod yX1_covers, Cond.selects RX1 yX1_covers yX1_covers, Cond.initialized RX1, Cond.code yX1_covers cX1_covers 6 (some .boolean), Cond.fieldLink RX1 33 "HostKeyring$Line" "isHashed" "Z", Cond.fieldLink RX1 57 "HostKeyring$Line" "hashPort" "I", Cond.fieldLink RX1 54 "HostKeyring$Line" "hashSalt" "I", Cond.fieldLink RX1 51 "HostKeyring$Line" "hash" "I", Cond.fieldLink RX1 30 "HostKeyring$Line" "patternCount" "I", Cond.fieldLink RX1 11 "HostKeyring$Line" "patterns" "[LHostKeyring$Pattern;", Cond.methodLink RX1 47 yX1_hashOf, Cond.static yX1_hashOf]
def wsX4_find_r2 : List Cond := [Cond.code yX1_hashOf cX1_hashOf 2 (some .int), Cond.methodLink RX1 60 yX2_fits, Cond.instanceMethod yX2_fits, Cond.selects RX2 yX2_fits yX2_fits, Cond.initialized RX2, Cond.code yX2_fits cX2_fits 3 (some .boolean), Cond.fieldLink RX2 16 "HostKeyring$Pattern" "port" "I", Cond.fieldLink RX2 13 "HostKeyring$Pattern" "places" "I", Cond.fieldLink RX2 7 "HostKeyring$Pattern" "name" "I", Cond.static yX4_isSameAt, Cond.code yX4_isSameAt cX4_isSameAt 7 (some .boolean)]
def wsX4_find : List Cond := .code yX4_find cX4_find 4 (some .int) :: ((wsX4_find_r1 ++ wsX4_find_r2) ++ wsX40 ++ wsX10 ++ wsX20 ++ (vx_atS RX4 133 "java/lang/IllegalArgumentException" ["java/lang/RuntimeException", "java/lang/Exception"]).filter goodWord)
def wsX4_linesOf : List Cond := .code yX4_linesOf cX4_linesOf 5 (some .long) :: ([.fieldLink RX4 47 "HostKeyring" "lineCount" "I", .fieldLink RX4 11 "HostKeyring" "book" "[LHostKeyring$Line;", .methodLink RX4 39 yX4_requireKey, .static yX4_requireKey, .initialized RX4, .code yX4_requireKey cX4_requireKey 1 none, .methodLink RX4 35 yX4_requireWithin, .static yX4_requireWithin, .code yX4_requireWithin cX4_requireWithin 3 none, .classLink RX4 129 "java/lang/IllegalArgumentException", .initialized "java/lang/IllegalArgumentException"] ++ wsX40 ++ wsX10 ++ (vx_atS RX4 133 "java/lang/IllegalArgumentException" ["java/lang/RuntimeException", "java/lang/Exception"]).filter goodWord)
def wsX4_waiting : List Cond := .code yX4_waiting cX4_waiting 1 (some .int) :: ([.fieldLink RX4 31 "HostKeyring" "waitingKey" "I"] ++ wsX40)
def wsX5_init_r1 : List Cond := [Cond.methodLink RX5 1 objectInit, Cond.instanceMethod objectInit, Cond.code objectInit ⟨#[0xb1]⟩ 1 none, Cond.fieldLink RX5 7 "HostKeyringModel" "rule" "I", Cond.arrayClass .int, Cond.fieldLink RX5 13 "HostKeyringModel" "keys" "[I", Cond.fieldLink RX5 17 "HostKeyringModel" "marks" "[I", Cond.fieldLink RX5 20 "HostKeyringModel" "seen" "[I", Cond.fieldLink RX5 23 "HostKeyringModel" "ends" "[I", Cond.fieldLink RX5 26 "HostKeyringModel" "salts" "[I", Cond.fieldLink RX5 29 "HostKeyringModel" "hashes" "[I", Cond.fieldLink RX5 32 "HostKeyringModel" "hashPorts" "[I", Cond.fieldLink RX5 35 "HostKeyringModel" "sizes" "[I", Cond.fieldLink RX5 38 "HostKeyringModel" "names" "[I", Cond.fieldLink RX5 41 "HostKeyringModel" "places" "[I", Cond.fieldLink RX5 44 "HostKeyringModel" "ports" "[I", Cond.arrayClass .boolean, Cond.fieldLink RX5 47 "HostKeyringModel" "denied" "[Z", Cond.fieldLink RX5 51 "HostKeyringModel" "authorities" "[I", Cond.fieldLink RX5 54 "HostKeyringModel" "certKeys" "[I", Cond.fieldLink RX5 57 "HostKeyringModel" "certNames" "[I", Cond.fieldLink RX5 60 "HostKeyringModel" "certPlaces" "[I", Cond.fieldLink RX5 63 "HostKeyringModel" "serials" "[I", Cond.fieldLink RX5 66 "HostKeyringModel" "firsts" "[I"]
def wsX5_init_r2 : List Cond := [Cond.fieldLink RX5 69 "HostKeyringModel" "lasts" "[I", Cond.fieldLink RX5 72 "HostKeyringModel" "spanOf" "[I", Cond.fieldLink RX5 75 "HostKeyringModel" "froms" "[I", Cond.fieldLink RX5 78 "HostKeyringModel" "tos" "[I", Cond.fieldLink RX5 81 "HostKeyringModel" "waitingKey" "I"]
def wsX5_init : List Cond := .code yX5_init cX5_init 1 none :: ((wsX5_init_r1 ++ wsX5_init_r2) ++ wsX50)
def wsX5_thrown : List Cond := .code yX5_thrown cX5_thrown 1 (some .int) :: ([.fieldLink RX5 84 "HostKeyringModel" "thrown" "I"] ++ wsX50)
def wsX5_holds : List Cond := .code yX5_holds cX5_holds 2 (some .boolean) :: ([.fieldLink RX5 84 "HostKeyringModel" "thrown" "I"] ++ wsX50)
def wsX5_isIn : List Cond := .code yX5_isIn cX5_isIn 3 (some .boolean) :: ([])
def wsX5_isKey : List Cond := .code yX5_isKey cX5_isKey 1 (some .boolean) :: ([.methodLink RX5 87 yX5_isIn, .static yX5_isIn, .initialized RX5, .code yX5_isIn cX5_isIn 3 (some .boolean)])
def wsX5_isName : List Cond := .code yX5_isName cX5_isName 1 (some .boolean) :: ([.methodLink RX5 87 yX5_isIn, .static yX5_isIn, .initialized RX5, .code yX5_isIn cX5_isIn 3 (some .boolean)])
def wsX5_isPort : List Cond := .code yX5_isPort cX5_isPort 1 (some .boolean) :: ([.methodLink RX5 87 yX5_isIn, .static yX5_isIn, .initialized RX5, .code yX5_isIn cX5_isIn 3 (some .boolean)])
def wsX5_isLine : List Cond := .code yX5_isLine cX5_isLine 2 (some .boolean) :: ([.fieldLink RX5 91 "HostKeyringModel" "lines" "I", .methodLink RX5 87 yX5_isIn, .static yX5_isIn, .initialized RX5, .code yX5_isIn cX5_isIn 3 (some .boolean)] ++ wsX50)
def wsX5_areLike : List Cond := .code yX5_areLike cX5_areLike 7 (some .boolean) :: ([])
def wsX5_hash : List Cond := .code yX5_hash cX5_hash 2 (some .int) :: ([])
def wsX5_isFor : List Cond := .code yX5_isFor cX5_isFor 8 (some .boolean) :: ([.fieldLink RX5 26 "HostKeyringModel" "salts" "[I", .fieldLink RX5 32 "HostKeyringModel" "hashPorts" "[I", .fieldLink RX5 29 "HostKeyringModel" "hashes" "[I", .fieldLink RX5 35 "HostKeyringModel" "sizes" "[I", .fieldLink RX5 44 "HostKeyringModel" "ports" "[I", .fieldLink RX5 38 "HostKeyringModel" "names" "[I", .fieldLink RX5 41 "HostKeyringModel" "places" "[I", .fieldLink RX5 47 "HostKeyringModel" "denied" "[Z", .methodLink RX5 94 yX5_hash, .static yX5_hash, .initialized RX5, .code yX5_hash cX5_hash 2 (some .int), .methodLink RX5 98 yX5_areLike, .static yX5_areLike, .code yX5_areLike cX5_areLike 7 (some .boolean)] ++ wsX50)
def wsX5_hasEnded : List Cond := .code yX5_hasEnded cX5_hasEnded 2 (some .boolean) :: ([.fieldLink RX5 23 "HostKeyringModel" "ends" "[I", .fieldLink RX5 101 "HostKeyringModel" "day" "I"] ++ wsX50)
def wsX5_adds : List Cond := .code yX5_adds cX5_adds 3 none :: ([.fieldLink RX5 13 "HostKeyringModel" "keys" "[I", .fieldLink RX5 91 "HostKeyringModel" "lines" "I", .fieldLink RX5 17 "HostKeyringModel" "marks" "[I", .fieldLink RX5 20 "HostKeyringModel" "seen" "[I", .fieldLink RX5 101 "HostKeyringModel" "day" "I", .fieldLink RX5 23 "HostKeyringModel" "ends" "[I", .fieldLink RX5 26 "HostKeyringModel" "salts" "[I", .fieldLink RX5 35 "HostKeyringModel" "sizes" "[I"] ++ wsX50)
def wsX5_isMark : List Cond := .code yX5_isMark cX5_isMark 1 (some .boolean) :: ([.methodLink RX5 87 yX5_isIn, .static yX5_isIn, .initialized RX5, .code yX5_isIn cX5_isIn 3 (some .boolean)])
def wsX5_addLine_r1 : List Cond := [Cond.fieldLink RX5 91 "HostKeyringModel" "lines" "I", Cond.methodLink RX5 104 yX5_isMark, Cond.static yX5_isMark, Cond.initialized RX5, Cond.code yX5_isMark cX5_isMark 1 (some .boolean), Cond.methodLink RX5 87 yX5_isIn, Cond.static yX5_isIn, Cond.code yX5_isIn cX5_isIn 3 (some .boolean), Cond.methodLink RX5 108 yX5_isKey, Cond.static yX5_isKey, Cond.code yX5_isKey cX5_isKey 1 (some .boolean), Cond.methodLink RX5 111 yX5_holds, Cond.instanceMethod yX5_holds, Cond.selects RX5 yX5_holds yX5_holds, Cond.code yX5_holds cX5_holds 2 (some .boolean), Cond.fieldLink RX5 84 "HostKeyringModel" "thrown" "I", Cond.methodLink RX5 114 yX5_adds, Cond.instanceMethod yX5_adds, Cond.selects RX5 yX5_adds yX5_adds, Cond.code yX5_adds cX5_adds 3 none, Cond.fieldLink RX5 13 "HostKeyringModel" "keys" "[I", Cond.fieldLink RX5 17 "HostKeyringModel" "marks" "[I", Cond.fieldLink RX5 20 "HostKeyringModel" "seen" "[I", Cond.fieldLink RX5 101 "HostKeyringModel" "day" "I"]
def wsX5_addLine_r2 : List Cond := [Cond.fieldLink RX5 23 "HostKeyringModel" "ends" "[I", Cond.fieldLink RX5 26 "HostKeyringModel" "salts" "[I", Cond.fieldLink RX5 35 "HostKeyringModel" "sizes" "[I"]
def wsX5_addLine : List Cond := .code yX5_addLine cX5_addLine 3 (some .int) :: ((wsX5_addLine_r1 ++ wsX5_addLine_r2) ++ wsX50)
def wsX5_addsPattern : List Cond := .code yX5_addsPattern cX5_addsPattern 7 none :: ([.fieldLink RX5 35 "HostKeyringModel" "sizes" "[I", .fieldLink RX5 38 "HostKeyringModel" "names" "[I", .fieldLink RX5 41 "HostKeyringModel" "places" "[I", .fieldLink RX5 44 "HostKeyringModel" "ports" "[I", .fieldLink RX5 47 "HostKeyringModel" "denied" "[Z"] ++ wsX50)
def wsX5_addPattern_r1 : List Cond := [Cond.fieldLink RX5 26 "HostKeyringModel" "salts" "[I", Cond.fieldLink RX5 35 "HostKeyringModel" "sizes" "[I", Cond.methodLink RX5 118 yX5_isLine, Cond.instanceMethod yX5_isLine, Cond.selects RX5 yX5_isLine yX5_isLine, Cond.initialized RX5, Cond.code yX5_isLine cX5_isLine 2 (some .boolean), Cond.fieldLink RX5 91 "HostKeyringModel" "lines" "I", Cond.methodLink RX5 87 yX5_isIn, Cond.static yX5_isIn, Cond.code yX5_isIn cX5_isIn 3 (some .boolean), Cond.methodLink RX5 121 yX5_isName, Cond.static yX5_isName, Cond.code yX5_isName cX5_isName 1 (some .boolean), Cond.methodLink RX5 124 yX5_isPort, Cond.static yX5_isPort, Cond.code yX5_isPort cX5_isPort 1 (some .boolean), Cond.methodLink RX5 111 yX5_holds, Cond.instanceMethod yX5_holds, Cond.selects RX5 yX5_holds yX5_holds, Cond.code yX5_holds cX5_holds 2 (some .boolean), Cond.fieldLink RX5 84 "HostKeyringModel" "thrown" "I", Cond.methodLink RX5 127 yX5_addsPattern, Cond.instanceMethod yX5_addsPattern]
def wsX5_addPattern_r2 : List Cond := [Cond.selects RX5 yX5_addsPattern yX5_addsPattern, Cond.code yX5_addsPattern cX5_addsPattern 7 none, Cond.fieldLink RX5 38 "HostKeyringModel" "names" "[I", Cond.fieldLink RX5 41 "HostKeyringModel" "places" "[I", Cond.fieldLink RX5 44 "HostKeyringModel" "ports" "[I", Cond.fieldLink RX5 47 "HostKeyringModel" "denied" "[Z"]
def wsX5_addPattern : List Cond := .code yX5_addPattern cX5_addPattern 8 (some .int) :: ((wsX5_addPattern_r1 ++ wsX5_addPattern_r2) ++ wsX50)
def wsX5_addsHashed : List Cond := .code yX5_addsHashed cX5_addsHashed 6 none :: ([.fieldLink RX5 26 "HostKeyringModel" "salts" "[I", .fieldLink RX5 91 "HostKeyringModel" "lines" "I", .fieldLink RX5 29 "HostKeyringModel" "hashes" "[I", .fieldLink RX5 32 "HostKeyringModel" "hashPorts" "[I", .methodLink RX5 114 yX5_adds, .instanceMethod yX5_adds, .selects RX5 yX5_adds yX5_adds, .initialized RX5, .code yX5_adds cX5_adds 3 none, .fieldLink RX5 13 "HostKeyringModel" "keys" "[I", .fieldLink RX5 17 "HostKeyringModel" "marks" "[I", .fieldLink RX5 20 "HostKeyringModel" "seen" "[I", .fieldLink RX5 101 "HostKeyringModel" "day" "I", .fieldLink RX5 23 "HostKeyringModel" "ends" "[I", .fieldLink RX5 35 "HostKeyringModel" "sizes" "[I", .methodLink RX5 94 yX5_hash, .static yX5_hash, .code yX5_hash cX5_hash 2 (some .int)] ++ wsX50)
def wsX5_addHashed_r1 : List Cond := [Cond.fieldLink RX5 91 "HostKeyringModel" "lines" "I", Cond.methodLink RX5 104 yX5_isMark, Cond.static yX5_isMark, Cond.initialized RX5, Cond.code yX5_isMark cX5_isMark 1 (some .boolean), Cond.methodLink RX5 87 yX5_isIn, Cond.static yX5_isIn, Cond.code yX5_isIn cX5_isIn 3 (some .boolean), Cond.methodLink RX5 108 yX5_isKey, Cond.static yX5_isKey, Cond.code yX5_isKey cX5_isKey 1 (some .boolean), Cond.methodLink RX5 121 yX5_isName, Cond.static yX5_isName, Cond.code yX5_isName cX5_isName 1 (some .boolean), Cond.methodLink RX5 124 yX5_isPort, Cond.static yX5_isPort, Cond.code yX5_isPort cX5_isPort 1 (some .boolean), Cond.methodLink RX5 111 yX5_holds, Cond.instanceMethod yX5_holds, Cond.selects RX5 yX5_holds yX5_holds, Cond.code yX5_holds cX5_holds 2 (some .boolean), Cond.fieldLink RX5 84 "HostKeyringModel" "thrown" "I", Cond.methodLink RX5 131 yX5_addsHashed, Cond.instanceMethod yX5_addsHashed]
def wsX5_addHashed_r2 : List Cond := [Cond.selects RX5 yX5_addsHashed yX5_addsHashed, Cond.code yX5_addsHashed cX5_addsHashed 6 none, Cond.fieldLink RX5 26 "HostKeyringModel" "salts" "[I", Cond.fieldLink RX5 29 "HostKeyringModel" "hashes" "[I", Cond.fieldLink RX5 32 "HostKeyringModel" "hashPorts" "[I", Cond.methodLink RX5 114 yX5_adds, Cond.instanceMethod yX5_adds, Cond.selects RX5 yX5_adds yX5_adds, Cond.code yX5_adds cX5_adds 3 none, Cond.fieldLink RX5 13 "HostKeyringModel" "keys" "[I", Cond.fieldLink RX5 17 "HostKeyringModel" "marks" "[I", Cond.fieldLink RX5 20 "HostKeyringModel" "seen" "[I", Cond.fieldLink RX5 101 "HostKeyringModel" "day" "I", Cond.fieldLink RX5 23 "HostKeyringModel" "ends" "[I", Cond.fieldLink RX5 35 "HostKeyringModel" "sizes" "[I", Cond.methodLink RX5 94 yX5_hash, Cond.static yX5_hash, Cond.code yX5_hash cX5_hash 2 (some .int)]
def wsX5_addHashed : List Cond := .code yX5_addHashed cX5_addHashed 7 (some .int) :: ((wsX5_addHashed_r1 ++ wsX5_addHashed_r2) ++ wsX50)
def wsX5_becomesLike : List Cond := .code yX5_becomesLike cX5_becomesLike 4 none :: ([.fieldLink RX5 26 "HostKeyringModel" "salts" "[I", .fieldLink RX5 29 "HostKeyringModel" "hashes" "[I", .fieldLink RX5 32 "HostKeyringModel" "hashPorts" "[I", .fieldLink RX5 35 "HostKeyringModel" "sizes" "[I", .fieldLink RX5 38 "HostKeyringModel" "names" "[I", .fieldLink RX5 41 "HostKeyringModel" "places" "[I", .fieldLink RX5 44 "HostKeyringModel" "ports" "[I", .fieldLink RX5 47 "HostKeyringModel" "denied" "[Z"] ++ wsX50)
def wsX5_removes : List Cond := .code yX5_removes cX5_removes 3 none :: ([.fieldLink RX5 91 "HostKeyringModel" "lines" "I", .fieldLink RX5 13 "HostKeyringModel" "keys" "[I", .fieldLink RX5 17 "HostKeyringModel" "marks" "[I", .fieldLink RX5 20 "HostKeyringModel" "seen" "[I", .fieldLink RX5 23 "HostKeyringModel" "ends" "[I", .methodLink RX5 135 yX5_becomesLike, .instanceMethod yX5_becomesLike, .selects RX5 yX5_becomesLike yX5_becomesLike, .initialized RX5, .code yX5_becomesLike cX5_becomesLike 4 none, .fieldLink RX5 26 "HostKeyringModel" "salts" "[I", .fieldLink RX5 29 "HostKeyringModel" "hashes" "[I", .fieldLink RX5 32 "HostKeyringModel" "hashPorts" "[I", .fieldLink RX5 35 "HostKeyringModel" "sizes" "[I", .fieldLink RX5 38 "HostKeyringModel" "names" "[I", .fieldLink RX5 41 "HostKeyringModel" "places" "[I", .fieldLink RX5 44 "HostKeyringModel" "ports" "[I", .fieldLink RX5 47 "HostKeyringModel" "denied" "[Z"] ++ wsX50)
def wsX5_remove_r1 : List Cond := [Cond.fieldLink RX5 13 "HostKeyringModel" "keys" "[I", Cond.methodLink RX5 118 yX5_isLine, Cond.instanceMethod yX5_isLine, Cond.selects RX5 yX5_isLine yX5_isLine, Cond.initialized RX5, Cond.code yX5_isLine cX5_isLine 2 (some .boolean), Cond.fieldLink RX5 91 "HostKeyringModel" "lines" "I", Cond.methodLink RX5 87 yX5_isIn, Cond.static yX5_isIn, Cond.code yX5_isIn cX5_isIn 3 (some .boolean), Cond.methodLink RX5 111 yX5_holds, Cond.instanceMethod yX5_holds, Cond.selects RX5 yX5_holds yX5_holds, Cond.code yX5_holds cX5_holds 2 (some .boolean), Cond.fieldLink RX5 84 "HostKeyringModel" "thrown" "I", Cond.methodLink RX5 138 yX5_removes, Cond.instanceMethod yX5_removes, Cond.selects RX5 yX5_removes yX5_removes, Cond.code yX5_removes cX5_removes 3 none, Cond.fieldLink RX5 17 "HostKeyringModel" "marks" "[I", Cond.fieldLink RX5 20 "HostKeyringModel" "seen" "[I", Cond.fieldLink RX5 23 "HostKeyringModel" "ends" "[I", Cond.methodLink RX5 135 yX5_becomesLike, Cond.instanceMethod yX5_becomesLike]
def wsX5_remove_r2 : List Cond := [Cond.selects RX5 yX5_becomesLike yX5_becomesLike, Cond.code yX5_becomesLike cX5_becomesLike 4 none, Cond.fieldLink RX5 26 "HostKeyringModel" "salts" "[I", Cond.fieldLink RX5 29 "HostKeyringModel" "hashes" "[I", Cond.fieldLink RX5 32 "HostKeyringModel" "hashPorts" "[I", Cond.fieldLink RX5 35 "HostKeyringModel" "sizes" "[I", Cond.fieldLink RX5 38 "HostKeyringModel" "names" "[I", Cond.fieldLink RX5 41 "HostKeyringModel" "places" "[I", Cond.fieldLink RX5 44 "HostKeyringModel" "ports" "[I", Cond.fieldLink RX5 47 "HostKeyringModel" "denied" "[Z"]
def wsX5_remove : List Cond := .code yX5_remove cX5_remove 3 (some .int) :: ((wsX5_remove_r1 ++ wsX5_remove_r2) ++ wsX50)
def wsX5_certify : List Cond := .code yX5_certify cX5_certify 10 (some .int) :: ([.fieldLink RX5 142 "HostKeyringModel" "certificates" "I", .fieldLink RX5 51 "HostKeyringModel" "authorities" "[I", .fieldLink RX5 54 "HostKeyringModel" "certKeys" "[I", .fieldLink RX5 57 "HostKeyringModel" "certNames" "[I", .fieldLink RX5 60 "HostKeyringModel" "certPlaces" "[I", .fieldLink RX5 63 "HostKeyringModel" "serials" "[I", .fieldLink RX5 66 "HostKeyringModel" "firsts" "[I", .fieldLink RX5 69 "HostKeyringModel" "lasts" "[I", .methodLink RX5 108 yX5_isKey, .static yX5_isKey, .initialized RX5, .code yX5_isKey cX5_isKey 1 (some .boolean), .methodLink RX5 87 yX5_isIn, .static yX5_isIn, .code yX5_isIn cX5_isIn 3 (some .boolean), .methodLink RX5 121 yX5_isName, .static yX5_isName, .code yX5_isName cX5_isName 1 (some .boolean), .methodLink RX5 111 yX5_holds, .instanceMethod yX5_holds, .selects RX5 yX5_holds yX5_holds, .code yX5_holds cX5_holds 2 (some .boolean), .fieldLink RX5 84 "HostKeyringModel" "thrown" "I"] ++ wsX50)
def wsX5_isRevoked : List Cond := .code yX5_isRevoked cX5_isRevoked 4 (some .boolean) :: ([.fieldLink RX5 145 "HostKeyringModel" "spans" "I", .fieldLink RX5 72 "HostKeyringModel" "spanOf" "[I", .fieldLink RX5 51 "HostKeyringModel" "authorities" "[I", .fieldLink RX5 63 "HostKeyringModel" "serials" "[I", .fieldLink RX5 75 "HostKeyringModel" "froms" "[I", .fieldLink RX5 78 "HostKeyringModel" "tos" "[I", .methodLink RX5 87 yX5_isIn, .static yX5_isIn, .initialized RX5, .code yX5_isIn cX5_isIn 3 (some .boolean)] ++ wsX50)
def wsX5_revokeSpan : List Cond := .code yX5_revokeSpan cX5_revokeSpan 7 (some .int) :: ([.fieldLink RX5 145 "HostKeyringModel" "spans" "I", .fieldLink RX5 72 "HostKeyringModel" "spanOf" "[I", .fieldLink RX5 75 "HostKeyringModel" "froms" "[I", .fieldLink RX5 78 "HostKeyringModel" "tos" "[I", .fieldLink RX5 142 "HostKeyringModel" "certificates" "I", .methodLink RX5 108 yX5_isKey, .static yX5_isKey, .initialized RX5, .code yX5_isKey cX5_isKey 1 (some .boolean), .methodLink RX5 87 yX5_isIn, .static yX5_isIn, .code yX5_isIn cX5_isIn 3 (some .boolean), .methodLink RX5 111 yX5_holds, .instanceMethod yX5_holds, .selects RX5 yX5_holds yX5_holds, .code yX5_holds cX5_holds 2 (some .boolean), .fieldLink RX5 84 "HostKeyringModel" "thrown" "I", .methodLink RX5 148 yX5_isRevoked, .instanceMethod yX5_isRevoked, .selects RX5 yX5_isRevoked yX5_isRevoked, .code yX5_isRevoked cX5_isRevoked 4 (some .boolean), .fieldLink RX5 51 "HostKeyringModel" "authorities" "[I", .fieldLink RX5 63 "HostKeyringModel" "serials" "[I"] ++ wsX50)
def wsX5_has_r1 : List Cond := [Cond.fieldLink RX5 91 "HostKeyringModel" "lines" "I", Cond.fieldLink RX5 17 "HostKeyringModel" "marks" "[I", Cond.fieldLink RX5 13 "HostKeyringModel" "keys" "[I", Cond.methodLink RX5 151 yX5_hasEnded, Cond.instanceMethod yX5_hasEnded, Cond.selects RX5 yX5_hasEnded yX5_hasEnded, Cond.initialized RX5, Cond.code yX5_hasEnded cX5_hasEnded 2 (some .boolean), Cond.fieldLink RX5 23 "HostKeyringModel" "ends" "[I", Cond.fieldLink RX5 101 "HostKeyringModel" "day" "I", Cond.methodLink RX5 154 yX5_isFor, Cond.instanceMethod yX5_isFor, Cond.selects RX5 yX5_isFor yX5_isFor, Cond.code yX5_isFor cX5_isFor 8 (some .boolean), Cond.fieldLink RX5 26 "HostKeyringModel" "salts" "[I", Cond.fieldLink RX5 32 "HostKeyringModel" "hashPorts" "[I", Cond.fieldLink RX5 29 "HostKeyringModel" "hashes" "[I", Cond.fieldLink RX5 35 "HostKeyringModel" "sizes" "[I", Cond.fieldLink RX5 44 "HostKeyringModel" "ports" "[I", Cond.fieldLink RX5 38 "HostKeyringModel" "names" "[I", Cond.fieldLink RX5 41 "HostKeyringModel" "places" "[I", Cond.fieldLink RX5 47 "HostKeyringModel" "denied" "[Z", Cond.methodLink RX5 94 yX5_hash, Cond.static yX5_hash]
def wsX5_has_r2 : List Cond := [Cond.code yX5_hash cX5_hash 2 (some .int), Cond.methodLink RX5 98 yX5_areLike, Cond.static yX5_areLike, Cond.code yX5_areLike cX5_areLike 7 (some .boolean)]
def wsX5_has : List Cond := .code yX5_has cX5_has 8 (some .boolean) :: ((wsX5_has_r1 ++ wsX5_has_r2) ++ wsX50)
def wsX5_isGood_r1 : List Cond := [Cond.fieldLink RX5 57 "HostKeyringModel" "certNames" "[I", Cond.fieldLink RX5 60 "HostKeyringModel" "certPlaces" "[I", Cond.fieldLink RX5 101 "HostKeyringModel" "day" "I", Cond.fieldLink RX5 66 "HostKeyringModel" "firsts" "[I", Cond.fieldLink RX5 69 "HostKeyringModel" "lasts" "[I", Cond.fieldLink RX5 51 "HostKeyringModel" "authorities" "[I", Cond.methodLink RX5 98 yX5_areLike, Cond.static yX5_areLike, Cond.initialized RX5, Cond.code yX5_areLike cX5_areLike 7 (some .boolean), Cond.methodLink RX5 87 yX5_isIn, Cond.static yX5_isIn, Cond.code yX5_isIn cX5_isIn 3 (some .boolean), Cond.methodLink RX5 148 yX5_isRevoked, Cond.instanceMethod yX5_isRevoked, Cond.selects RX5 yX5_isRevoked yX5_isRevoked, Cond.code yX5_isRevoked cX5_isRevoked 4 (some .boolean), Cond.fieldLink RX5 145 "HostKeyringModel" "spans" "I", Cond.fieldLink RX5 72 "HostKeyringModel" "spanOf" "[I", Cond.fieldLink RX5 63 "HostKeyringModel" "serials" "[I", Cond.fieldLink RX5 75 "HostKeyringModel" "froms" "[I", Cond.fieldLink RX5 78 "HostKeyringModel" "tos" "[I", Cond.methodLink RX5 157 yX5_has, Cond.instanceMethod yX5_has]
def wsX5_isGood_r2 : List Cond := [Cond.selects RX5 yX5_has yX5_has, Cond.code yX5_has cX5_has 8 (some .boolean), Cond.fieldLink RX5 91 "HostKeyringModel" "lines" "I", Cond.fieldLink RX5 17 "HostKeyringModel" "marks" "[I", Cond.fieldLink RX5 13 "HostKeyringModel" "keys" "[I", Cond.methodLink RX5 151 yX5_hasEnded, Cond.instanceMethod yX5_hasEnded, Cond.selects RX5 yX5_hasEnded yX5_hasEnded, Cond.code yX5_hasEnded cX5_hasEnded 2 (some .boolean), Cond.fieldLink RX5 23 "HostKeyringModel" "ends" "[I", Cond.methodLink RX5 154 yX5_isFor, Cond.instanceMethod yX5_isFor, Cond.selects RX5 yX5_isFor yX5_isFor, Cond.code yX5_isFor cX5_isFor 8 (some .boolean), Cond.fieldLink RX5 26 "HostKeyringModel" "salts" "[I", Cond.fieldLink RX5 32 "HostKeyringModel" "hashPorts" "[I", Cond.fieldLink RX5 29 "HostKeyringModel" "hashes" "[I", Cond.fieldLink RX5 35 "HostKeyringModel" "sizes" "[I", Cond.fieldLink RX5 44 "HostKeyringModel" "ports" "[I", Cond.fieldLink RX5 38 "HostKeyringModel" "names" "[I", Cond.fieldLink RX5 41 "HostKeyringModel" "places" "[I", Cond.fieldLink RX5 47 "HostKeyringModel" "denied" "[Z", Cond.methodLink RX5 94 yX5_hash, Cond.static yX5_hash]
def wsX5_isGood_r3 : List Cond := [Cond.code yX5_hash cX5_hash 2 (some .int)]
def wsX5_isGood : List Cond := .code yX5_isGood cX5_isGood 5 (some .boolean) :: ((wsX5_isGood_r1 ++ (wsX5_isGood_r2 ++ wsX5_isGood_r3)) ++ wsX50)
def wsX5_judgement_r1 : List Cond := [Cond.fieldLink RX5 51 "HostKeyringModel" "authorities" "[I", Cond.fieldLink RX5 54 "HostKeyringModel" "certKeys" "[I", Cond.fieldLink RX5 91 "HostKeyringModel" "lines" "I", Cond.fieldLink RX5 17 "HostKeyringModel" "marks" "[I", Cond.fieldLink RX5 13 "HostKeyringModel" "keys" "[I", Cond.methodLink RX5 157 yX5_has, Cond.instanceMethod yX5_has, Cond.selects RX5 yX5_has yX5_has, Cond.initialized RX5, Cond.code yX5_has cX5_has 8 (some .boolean), Cond.methodLink RX5 151 yX5_hasEnded, Cond.instanceMethod yX5_hasEnded, Cond.selects RX5 yX5_hasEnded yX5_hasEnded, Cond.code yX5_hasEnded cX5_hasEnded 2 (some .boolean), Cond.fieldLink RX5 23 "HostKeyringModel" "ends" "[I", Cond.fieldLink RX5 101 "HostKeyringModel" "day" "I", Cond.methodLink RX5 154 yX5_isFor, Cond.instanceMethod yX5_isFor, Cond.selects RX5 yX5_isFor yX5_isFor, Cond.code yX5_isFor cX5_isFor 8 (some .boolean), Cond.fieldLink RX5 26 "HostKeyringModel" "salts" "[I", Cond.fieldLink RX5 32 "HostKeyringModel" "hashPorts" "[I", Cond.fieldLink RX5 29 "HostKeyringModel" "hashes" "[I", Cond.fieldLink RX5 35 "HostKeyringModel" "sizes" "[I"]
def wsX5_judgement_r2 : List Cond := [Cond.fieldLink RX5 44 "HostKeyringModel" "ports" "[I", Cond.fieldLink RX5 38 "HostKeyringModel" "names" "[I", Cond.fieldLink RX5 41 "HostKeyringModel" "places" "[I", Cond.fieldLink RX5 47 "HostKeyringModel" "denied" "[Z", Cond.methodLink RX5 94 yX5_hash, Cond.static yX5_hash, Cond.code yX5_hash cX5_hash 2 (some .int), Cond.methodLink RX5 98 yX5_areLike, Cond.static yX5_areLike, Cond.code yX5_areLike cX5_areLike 7 (some .boolean), Cond.methodLink RX5 161 yX5_isGood, Cond.instanceMethod yX5_isGood, Cond.selects RX5 yX5_isGood yX5_isGood, Cond.code yX5_isGood cX5_isGood 5 (some .boolean), Cond.fieldLink RX5 57 "HostKeyringModel" "certNames" "[I", Cond.fieldLink RX5 60 "HostKeyringModel" "certPlaces" "[I", Cond.fieldLink RX5 66 "HostKeyringModel" "firsts" "[I", Cond.fieldLink RX5 69 "HostKeyringModel" "lasts" "[I", Cond.methodLink RX5 87 yX5_isIn, Cond.static yX5_isIn, Cond.code yX5_isIn cX5_isIn 3 (some .boolean), Cond.methodLink RX5 148 yX5_isRevoked, Cond.instanceMethod yX5_isRevoked, Cond.selects RX5 yX5_isRevoked yX5_isRevoked]
def wsX5_judgement_r3 : List Cond := [Cond.code yX5_isRevoked cX5_isRevoked 4 (some .boolean), Cond.fieldLink RX5 145 "HostKeyringModel" "spans" "I", Cond.fieldLink RX5 72 "HostKeyringModel" "spanOf" "[I", Cond.fieldLink RX5 63 "HostKeyringModel" "serials" "[I", Cond.fieldLink RX5 75 "HostKeyringModel" "froms" "[I", Cond.fieldLink RX5 78 "HostKeyringModel" "tos" "[I"]
def wsX5_judgement : List Cond := .code yX5_judgement cX5_judgement 9 (some .int) :: ((wsX5_judgement_r1 ++ (wsX5_judgement_r2 ++ wsX5_judgement_r3)) ++ wsX50)
def wsX5_setFirstSight : List Cond := .code yX5_setFirstSight cX5_setFirstSight 4 (some .int) :: ([.fieldLink RX5 7 "HostKeyringModel" "rule" "I", .fieldLink RX5 164 "HostKeyringModel" "areHashed" "Z", .methodLink RX5 87 yX5_isIn, .static yX5_isIn, .initialized RX5, .code yX5_isIn cX5_isIn 3 (some .boolean), .methodLink RX5 111 yX5_holds, .instanceMethod yX5_holds, .selects RX5 yX5_holds yX5_holds, .code yX5_holds cX5_holds 2 (some .boolean), .fieldLink RX5 84 "HostKeyringModel" "thrown" "I"] ++ wsX50)
def wsX5_areAsked : List Cond := .code yX5_areAsked cX5_areAsked 3 (some .boolean) :: ([.methodLink RX5 121 yX5_isName, .static yX5_isName, .initialized RX5, .code yX5_isName cX5_isName 1 (some .boolean), .methodLink RX5 87 yX5_isIn, .static yX5_isIn, .code yX5_isIn cX5_isIn 3 (some .boolean), .methodLink RX5 124 yX5_isPort, .static yX5_isPort, .code yX5_isPort cX5_isPort 1 (some .boolean), .methodLink RX5 108 yX5_isKey, .static yX5_isKey, .code yX5_isKey cX5_isKey 1 (some .boolean)])
def wsX5_isJudged : List Cond := .code yX5_isJudged cX5_isJudged 5 (some .boolean) :: ([.fieldLink RX5 142 "HostKeyringModel" "certificates" "I", .methodLink RX5 87 yX5_isIn, .static yX5_isIn, .initialized RX5, .code yX5_isIn cX5_isIn 3 (some .boolean), .methodLink RX5 168 yX5_areAsked, .static yX5_areAsked, .code yX5_areAsked cX5_areAsked 3 (some .boolean), .methodLink RX5 121 yX5_isName, .static yX5_isName, .code yX5_isName cX5_isName 1 (some .boolean), .methodLink RX5 124 yX5_isPort, .static yX5_isPort, .code yX5_isPort cX5_isPort 1 (some .boolean), .methodLink RX5 108 yX5_isKey, .static yX5_isKey, .code yX5_isKey cX5_isKey 1 (some .boolean), .methodLink RX5 111 yX5_holds, .instanceMethod yX5_holds, .selects RX5 yX5_holds yX5_holds, .code yX5_holds cX5_holds 2 (some .boolean), .fieldLink RX5 84 "HostKeyringModel" "thrown" "I"] ++ wsX50)
def wsX5_trusts_r1 : List Cond := [Cond.fieldLink RX5 164 "HostKeyringModel" "areHashed" "Z", Cond.fieldLink RX5 91 "HostKeyringModel" "lines" "I", Cond.methodLink RX5 131 yX5_addsHashed, Cond.instanceMethod yX5_addsHashed, Cond.selects RX5 yX5_addsHashed yX5_addsHashed, Cond.initialized RX5, Cond.code yX5_addsHashed cX5_addsHashed 6 none, Cond.fieldLink RX5 26 "HostKeyringModel" "salts" "[I", Cond.fieldLink RX5 29 "HostKeyringModel" "hashes" "[I", Cond.fieldLink RX5 32 "HostKeyringModel" "hashPorts" "[I", Cond.methodLink RX5 114 yX5_adds, Cond.instanceMethod yX5_adds, Cond.selects RX5 yX5_adds yX5_adds, Cond.code yX5_adds cX5_adds 3 none, Cond.fieldLink RX5 13 "HostKeyringModel" "keys" "[I", Cond.fieldLink RX5 17 "HostKeyringModel" "marks" "[I", Cond.fieldLink RX5 20 "HostKeyringModel" "seen" "[I", Cond.fieldLink RX5 101 "HostKeyringModel" "day" "I", Cond.fieldLink RX5 23 "HostKeyringModel" "ends" "[I", Cond.fieldLink RX5 35 "HostKeyringModel" "sizes" "[I", Cond.methodLink RX5 94 yX5_hash, Cond.static yX5_hash, Cond.code yX5_hash cX5_hash 2 (some .int), Cond.methodLink RX5 127 yX5_addsPattern]
def wsX5_trusts_r2 : List Cond := [Cond.instanceMethod yX5_addsPattern, Cond.selects RX5 yX5_addsPattern yX5_addsPattern, Cond.code yX5_addsPattern cX5_addsPattern 7 none, Cond.fieldLink RX5 38 "HostKeyringModel" "names" "[I", Cond.fieldLink RX5 41 "HostKeyringModel" "places" "[I", Cond.fieldLink RX5 44 "HostKeyringModel" "ports" "[I", Cond.fieldLink RX5 47 "HostKeyringModel" "denied" "[Z"]
def wsX5_trusts : List Cond := .code yX5_trusts cX5_trusts 4 none :: ((wsX5_trusts_r1 ++ wsX5_trusts_r2) ++ wsX50)
def wsX5_sees_r1 : List Cond := [Cond.fieldLink RX5 91 "HostKeyringModel" "lines" "I", Cond.fieldLink RX5 17 "HostKeyringModel" "marks" "[I", Cond.fieldLink RX5 13 "HostKeyringModel" "keys" "[I", Cond.fieldLink RX5 20 "HostKeyringModel" "seen" "[I", Cond.fieldLink RX5 101 "HostKeyringModel" "day" "I", Cond.methodLink RX5 151 yX5_hasEnded, Cond.instanceMethod yX5_hasEnded, Cond.selects RX5 yX5_hasEnded yX5_hasEnded, Cond.initialized RX5, Cond.code yX5_hasEnded cX5_hasEnded 2 (some .boolean), Cond.fieldLink RX5 23 "HostKeyringModel" "ends" "[I", Cond.methodLink RX5 154 yX5_isFor, Cond.instanceMethod yX5_isFor, Cond.selects RX5 yX5_isFor yX5_isFor, Cond.code yX5_isFor cX5_isFor 8 (some .boolean), Cond.fieldLink RX5 26 "HostKeyringModel" "salts" "[I", Cond.fieldLink RX5 32 "HostKeyringModel" "hashPorts" "[I", Cond.fieldLink RX5 29 "HostKeyringModel" "hashes" "[I", Cond.fieldLink RX5 35 "HostKeyringModel" "sizes" "[I", Cond.fieldLink RX5 44 "HostKeyringModel" "ports" "[I", Cond.fieldLink RX5 38 "HostKeyringModel" "names" "[I", Cond.fieldLink RX5 41 "HostKeyringModel" "places" "[I", Cond.fieldLink RX5 47 "HostKeyringModel" "denied" "[Z", Cond.methodLink RX5 94 yX5_hash]
def wsX5_sees_r2 : List Cond := [Cond.static yX5_hash, Cond.code yX5_hash cX5_hash 2 (some .int), Cond.methodLink RX5 98 yX5_areLike, Cond.static yX5_areLike, Cond.code yX5_areLike cX5_areLike 7 (some .boolean)]
def wsX5_sees : List Cond := .code yX5_sees cX5_sees 6 none :: ((wsX5_sees_r1 ++ wsX5_sees_r2) ++ wsX50)
def wsX5_answer_r1 : List Cond := [Cond.fieldLink RX5 7 "HostKeyringModel" "rule" "I", Cond.fieldLink RX5 81 "HostKeyringModel" "waitingKey" "I", Cond.fieldLink RX5 179 "HostKeyringModel" "waitingName" "I", Cond.fieldLink RX5 182 "HostKeyringModel" "waitingPort" "I", Cond.fieldLink RX5 51 "HostKeyringModel" "authorities" "[I", Cond.fieldLink RX5 91 "HostKeyringModel" "lines" "I", Cond.methodLink RX5 171 yX5_isJudged, Cond.instanceMethod yX5_isJudged, Cond.selects RX5 yX5_isJudged yX5_isJudged, Cond.initialized RX5, Cond.code yX5_isJudged cX5_isJudged 5 (some .boolean), Cond.fieldLink RX5 142 "HostKeyringModel" "certificates" "I", Cond.methodLink RX5 87 yX5_isIn, Cond.static yX5_isIn, Cond.code yX5_isIn cX5_isIn 3 (some .boolean), Cond.methodLink RX5 168 yX5_areAsked, Cond.static yX5_areAsked, Cond.code yX5_areAsked cX5_areAsked 3 (some .boolean), Cond.methodLink RX5 121 yX5_isName, Cond.static yX5_isName, Cond.code yX5_isName cX5_isName 1 (some .boolean), Cond.methodLink RX5 124 yX5_isPort, Cond.static yX5_isPort, Cond.code yX5_isPort cX5_isPort 1 (some .boolean)]
def wsX5_answer_r2 : List Cond := [Cond.methodLink RX5 108 yX5_isKey, Cond.static yX5_isKey, Cond.code yX5_isKey cX5_isKey 1 (some .boolean), Cond.methodLink RX5 111 yX5_holds, Cond.instanceMethod yX5_holds, Cond.selects RX5 yX5_holds yX5_holds, Cond.code yX5_holds cX5_holds 2 (some .boolean), Cond.fieldLink RX5 84 "HostKeyringModel" "thrown" "I", Cond.methodLink RX5 175 yX5_judgement, Cond.instanceMethod yX5_judgement, Cond.selects RX5 yX5_judgement yX5_judgement, Cond.code yX5_judgement cX5_judgement 9 (some .int), Cond.fieldLink RX5 54 "HostKeyringModel" "certKeys" "[I", Cond.fieldLink RX5 17 "HostKeyringModel" "marks" "[I", Cond.fieldLink RX5 13 "HostKeyringModel" "keys" "[I", Cond.methodLink RX5 157 yX5_has, Cond.instanceMethod yX5_has, Cond.selects RX5 yX5_has yX5_has, Cond.code yX5_has cX5_has 8 (some .boolean), Cond.methodLink RX5 151 yX5_hasEnded, Cond.instanceMethod yX5_hasEnded, Cond.selects RX5 yX5_hasEnded yX5_hasEnded, Cond.code yX5_hasEnded cX5_hasEnded 2 (some .boolean), Cond.fieldLink RX5 23 "HostKeyringModel" "ends" "[I"]
def wsX5_answer_r3 : List Cond := [Cond.fieldLink RX5 101 "HostKeyringModel" "day" "I", Cond.methodLink RX5 154 yX5_isFor, Cond.instanceMethod yX5_isFor, Cond.selects RX5 yX5_isFor yX5_isFor, Cond.code yX5_isFor cX5_isFor 8 (some .boolean), Cond.fieldLink RX5 26 "HostKeyringModel" "salts" "[I", Cond.fieldLink RX5 32 "HostKeyringModel" "hashPorts" "[I", Cond.fieldLink RX5 29 "HostKeyringModel" "hashes" "[I", Cond.fieldLink RX5 35 "HostKeyringModel" "sizes" "[I", Cond.fieldLink RX5 44 "HostKeyringModel" "ports" "[I", Cond.fieldLink RX5 38 "HostKeyringModel" "names" "[I", Cond.fieldLink RX5 41 "HostKeyringModel" "places" "[I", Cond.fieldLink RX5 47 "HostKeyringModel" "denied" "[Z", Cond.methodLink RX5 94 yX5_hash, Cond.static yX5_hash, Cond.code yX5_hash cX5_hash 2 (some .int), Cond.methodLink RX5 98 yX5_areLike, Cond.static yX5_areLike, Cond.code yX5_areLike cX5_areLike 7 (some .boolean), Cond.methodLink RX5 161 yX5_isGood, Cond.instanceMethod yX5_isGood, Cond.selects RX5 yX5_isGood yX5_isGood, Cond.code yX5_isGood cX5_isGood 5 (some .boolean), Cond.fieldLink RX5 57 "HostKeyringModel" "certNames" "[I"]
def wsX5_answer_r4 : List Cond := [Cond.fieldLink RX5 60 "HostKeyringModel" "certPlaces" "[I", Cond.fieldLink RX5 66 "HostKeyringModel" "firsts" "[I", Cond.fieldLink RX5 69 "HostKeyringModel" "lasts" "[I", Cond.methodLink RX5 148 yX5_isRevoked, Cond.instanceMethod yX5_isRevoked, Cond.selects RX5 yX5_isRevoked yX5_isRevoked, Cond.code yX5_isRevoked cX5_isRevoked 4 (some .boolean), Cond.fieldLink RX5 145 "HostKeyringModel" "spans" "I", Cond.fieldLink RX5 72 "HostKeyringModel" "spanOf" "[I", Cond.fieldLink RX5 63 "HostKeyringModel" "serials" "[I", Cond.fieldLink RX5 75 "HostKeyringModel" "froms" "[I", Cond.fieldLink RX5 78 "HostKeyringModel" "tos" "[I", Cond.methodLink RX5 185 yX5_sees, Cond.instanceMethod yX5_sees, Cond.selects RX5 yX5_sees yX5_sees, Cond.code yX5_sees cX5_sees 6 none, Cond.fieldLink RX5 20 "HostKeyringModel" "seen" "[I", Cond.methodLink RX5 189 yX5_trusts, Cond.instanceMethod yX5_trusts, Cond.selects RX5 yX5_trusts yX5_trusts, Cond.code yX5_trusts cX5_trusts 4 none, Cond.fieldLink RX5 164 "HostKeyringModel" "areHashed" "Z", Cond.methodLink RX5 131 yX5_addsHashed, Cond.instanceMethod yX5_addsHashed]
def wsX5_answer_r5 : List Cond := [Cond.selects RX5 yX5_addsHashed yX5_addsHashed, Cond.code yX5_addsHashed cX5_addsHashed 6 none, Cond.methodLink RX5 114 yX5_adds, Cond.instanceMethod yX5_adds, Cond.selects RX5 yX5_adds yX5_adds, Cond.code yX5_adds cX5_adds 3 none, Cond.methodLink RX5 127 yX5_addsPattern, Cond.instanceMethod yX5_addsPattern, Cond.selects RX5 yX5_addsPattern yX5_addsPattern, Cond.code yX5_addsPattern cX5_addsPattern 7 none]
def wsX5_answer : List Cond := .code yX5_answer cX5_answer 7 (some .int) :: ((wsX5_answer_r1 ++ (wsX5_answer_r2 ++ (wsX5_answer_r3 ++ (wsX5_answer_r4 ++ wsX5_answer_r5)))) ++ wsX50)
def wsX5_confirm_r1 : List Cond := [Cond.fieldLink RX5 81 "HostKeyringModel" "waitingKey" "I", Cond.fieldLink RX5 91 "HostKeyringModel" "lines" "I", Cond.fieldLink RX5 179 "HostKeyringModel" "waitingName" "I", Cond.fieldLink RX5 182 "HostKeyringModel" "waitingPort" "I", Cond.methodLink RX5 111 yX5_holds, Cond.instanceMethod yX5_holds, Cond.selects RX5 yX5_holds yX5_holds, Cond.initialized RX5, Cond.code yX5_holds cX5_holds 2 (some .boolean), Cond.fieldLink RX5 84 "HostKeyringModel" "thrown" "I", Cond.methodLink RX5 189 yX5_trusts, Cond.instanceMethod yX5_trusts, Cond.selects RX5 yX5_trusts yX5_trusts, Cond.code yX5_trusts cX5_trusts 4 none, Cond.fieldLink RX5 164 "HostKeyringModel" "areHashed" "Z", Cond.methodLink RX5 131 yX5_addsHashed, Cond.instanceMethod yX5_addsHashed, Cond.selects RX5 yX5_addsHashed yX5_addsHashed, Cond.code yX5_addsHashed cX5_addsHashed 6 none, Cond.fieldLink RX5 26 "HostKeyringModel" "salts" "[I", Cond.fieldLink RX5 29 "HostKeyringModel" "hashes" "[I", Cond.fieldLink RX5 32 "HostKeyringModel" "hashPorts" "[I", Cond.methodLink RX5 114 yX5_adds, Cond.instanceMethod yX5_adds]
def wsX5_confirm_r2 : List Cond := [Cond.selects RX5 yX5_adds yX5_adds, Cond.code yX5_adds cX5_adds 3 none, Cond.fieldLink RX5 13 "HostKeyringModel" "keys" "[I", Cond.fieldLink RX5 17 "HostKeyringModel" "marks" "[I", Cond.fieldLink RX5 20 "HostKeyringModel" "seen" "[I", Cond.fieldLink RX5 101 "HostKeyringModel" "day" "I", Cond.fieldLink RX5 23 "HostKeyringModel" "ends" "[I", Cond.fieldLink RX5 35 "HostKeyringModel" "sizes" "[I", Cond.methodLink RX5 94 yX5_hash, Cond.static yX5_hash, Cond.code yX5_hash cX5_hash 2 (some .int), Cond.methodLink RX5 127 yX5_addsPattern, Cond.instanceMethod yX5_addsPattern, Cond.selects RX5 yX5_addsPattern yX5_addsPattern, Cond.code yX5_addsPattern cX5_addsPattern 7 none, Cond.fieldLink RX5 38 "HostKeyringModel" "names" "[I", Cond.fieldLink RX5 41 "HostKeyringModel" "places" "[I", Cond.fieldLink RX5 44 "HostKeyringModel" "ports" "[I", Cond.fieldLink RX5 47 "HostKeyringModel" "denied" "[Z"]
def wsX5_confirm : List Cond := .code yX5_confirm cX5_confirm 1 (some .int) :: ((wsX5_confirm_r1 ++ wsX5_confirm_r2) ++ wsX50)
def wsX5_turn_r1 : List Cond := [Cond.fieldLink RX5 91 "HostKeyringModel" "lines" "I", Cond.fieldLink RX5 17 "HostKeyringModel" "marks" "[I", Cond.fieldLink RX5 13 "HostKeyringModel" "keys" "[I", Cond.fieldLink RX5 23 "HostKeyringModel" "ends" "[I", Cond.fieldLink RX5 101 "HostKeyringModel" "day" "I", Cond.methodLink RX5 168 yX5_areAsked, Cond.static yX5_areAsked, Cond.initialized RX5, Cond.code yX5_areAsked cX5_areAsked 3 (some .boolean), Cond.methodLink RX5 121 yX5_isName, Cond.static yX5_isName, Cond.code yX5_isName cX5_isName 1 (some .boolean), Cond.methodLink RX5 87 yX5_isIn, Cond.static yX5_isIn, Cond.code yX5_isIn cX5_isIn 3 (some .boolean), Cond.methodLink RX5 124 yX5_isPort, Cond.static yX5_isPort, Cond.code yX5_isPort cX5_isPort 1 (some .boolean), Cond.methodLink RX5 108 yX5_isKey, Cond.static yX5_isKey, Cond.code yX5_isKey cX5_isKey 1 (some .boolean), Cond.methodLink RX5 175 yX5_judgement, Cond.instanceMethod yX5_judgement, Cond.selects RX5 yX5_judgement yX5_judgement]
def wsX5_turn_r2 : List Cond := [Cond.code yX5_judgement cX5_judgement 9 (some .int), Cond.fieldLink RX5 51 "HostKeyringModel" "authorities" "[I", Cond.fieldLink RX5 54 "HostKeyringModel" "certKeys" "[I", Cond.methodLink RX5 157 yX5_has, Cond.instanceMethod yX5_has, Cond.selects RX5 yX5_has yX5_has, Cond.code yX5_has cX5_has 8 (some .boolean), Cond.methodLink RX5 151 yX5_hasEnded, Cond.instanceMethod yX5_hasEnded, Cond.selects RX5 yX5_hasEnded yX5_hasEnded, Cond.code yX5_hasEnded cX5_hasEnded 2 (some .boolean), Cond.methodLink RX5 154 yX5_isFor, Cond.instanceMethod yX5_isFor, Cond.selects RX5 yX5_isFor yX5_isFor, Cond.code yX5_isFor cX5_isFor 8 (some .boolean), Cond.fieldLink RX5 26 "HostKeyringModel" "salts" "[I", Cond.fieldLink RX5 32 "HostKeyringModel" "hashPorts" "[I", Cond.fieldLink RX5 29 "HostKeyringModel" "hashes" "[I", Cond.fieldLink RX5 35 "HostKeyringModel" "sizes" "[I", Cond.fieldLink RX5 44 "HostKeyringModel" "ports" "[I", Cond.fieldLink RX5 38 "HostKeyringModel" "names" "[I", Cond.fieldLink RX5 41 "HostKeyringModel" "places" "[I", Cond.fieldLink RX5 47 "HostKeyringModel" "denied" "[Z", Cond.methodLink RX5 94 yX5_hash]
def wsX5_turn_r3 : List Cond := [Cond.static yX5_hash, Cond.code yX5_hash cX5_hash 2 (some .int), Cond.methodLink RX5 98 yX5_areLike, Cond.static yX5_areLike, Cond.code yX5_areLike cX5_areLike 7 (some .boolean), Cond.methodLink RX5 161 yX5_isGood, Cond.instanceMethod yX5_isGood, Cond.selects RX5 yX5_isGood yX5_isGood, Cond.code yX5_isGood cX5_isGood 5 (some .boolean), Cond.fieldLink RX5 57 "HostKeyringModel" "certNames" "[I", Cond.fieldLink RX5 60 "HostKeyringModel" "certPlaces" "[I", Cond.fieldLink RX5 66 "HostKeyringModel" "firsts" "[I", Cond.fieldLink RX5 69 "HostKeyringModel" "lasts" "[I", Cond.methodLink RX5 148 yX5_isRevoked, Cond.instanceMethod yX5_isRevoked, Cond.selects RX5 yX5_isRevoked yX5_isRevoked, Cond.code yX5_isRevoked cX5_isRevoked 4 (some .boolean), Cond.fieldLink RX5 145 "HostKeyringModel" "spans" "I", Cond.fieldLink RX5 72 "HostKeyringModel" "spanOf" "[I", Cond.fieldLink RX5 63 "HostKeyringModel" "serials" "[I", Cond.fieldLink RX5 75 "HostKeyringModel" "froms" "[I", Cond.fieldLink RX5 78 "HostKeyringModel" "tos" "[I", Cond.methodLink RX5 111 yX5_holds, Cond.instanceMethod yX5_holds]
def wsX5_turn_r4 : List Cond := [Cond.selects RX5 yX5_holds yX5_holds, Cond.code yX5_holds cX5_holds 2 (some .boolean), Cond.fieldLink RX5 84 "HostKeyringModel" "thrown" "I", Cond.methodLink RX5 114 yX5_adds, Cond.instanceMethod yX5_adds, Cond.selects RX5 yX5_adds yX5_adds, Cond.code yX5_adds cX5_adds 3 none, Cond.fieldLink RX5 20 "HostKeyringModel" "seen" "[I", Cond.methodLink RX5 135 yX5_becomesLike, Cond.instanceMethod yX5_becomesLike, Cond.selects RX5 yX5_becomesLike yX5_becomesLike, Cond.code yX5_becomesLike cX5_becomesLike 4 none]
def wsX5_turn : List Cond := .code yX5_turn cX5_turn 10 (some .int) :: ((wsX5_turn_r1 ++ (wsX5_turn_r2 ++ (wsX5_turn_r3 ++ wsX5_turn_r4))) ++ wsX50)
def wsX5_pass : List Cond := .code yX5_pass cX5_pass 2 (some .int) :: ([.fieldLink RX5 101 "HostKeyringModel" "day" "I", .methodLink RX5 87 yX5_isIn, .static yX5_isIn, .initialized RX5, .code yX5_isIn cX5_isIn 3 (some .boolean), .methodLink RX5 111 yX5_holds, .instanceMethod yX5_holds, .selects RX5 yX5_holds yX5_holds, .code yX5_holds cX5_holds 2 (some .boolean), .fieldLink RX5 84 "HostKeyringModel" "thrown" "I"] ++ wsX50)
def wsX5_clean_r1 : List Cond := [Cond.fieldLink RX5 91 "HostKeyringModel" "lines" "I", Cond.fieldLink RX5 17 "HostKeyringModel" "marks" "[I", Cond.fieldLink RX5 101 "HostKeyringModel" "day" "I", Cond.fieldLink RX5 20 "HostKeyringModel" "seen" "[I", Cond.methodLink RX5 87 yX5_isIn, Cond.static yX5_isIn, Cond.initialized RX5, Cond.code yX5_isIn cX5_isIn 3 (some .boolean), Cond.methodLink RX5 111 yX5_holds, Cond.instanceMethod yX5_holds, Cond.selects RX5 yX5_holds yX5_holds, Cond.code yX5_holds cX5_holds 2 (some .boolean), Cond.fieldLink RX5 84 "HostKeyringModel" "thrown" "I", Cond.methodLink RX5 151 yX5_hasEnded, Cond.instanceMethod yX5_hasEnded, Cond.selects RX5 yX5_hasEnded yX5_hasEnded, Cond.code yX5_hasEnded cX5_hasEnded 2 (some .boolean), Cond.fieldLink RX5 23 "HostKeyringModel" "ends" "[I", Cond.methodLink RX5 138 yX5_removes, Cond.instanceMethod yX5_removes, Cond.selects RX5 yX5_removes yX5_removes, Cond.code yX5_removes cX5_removes 3 none, Cond.fieldLink RX5 13 "HostKeyringModel" "keys" "[I", Cond.methodLink RX5 135 yX5_becomesLike]
def wsX5_clean_r2 : List Cond := [Cond.instanceMethod yX5_becomesLike, Cond.selects RX5 yX5_becomesLike yX5_becomesLike, Cond.code yX5_becomesLike cX5_becomesLike 4 none, Cond.fieldLink RX5 26 "HostKeyringModel" "salts" "[I", Cond.fieldLink RX5 29 "HostKeyringModel" "hashes" "[I", Cond.fieldLink RX5 32 "HostKeyringModel" "hashPorts" "[I", Cond.fieldLink RX5 35 "HostKeyringModel" "sizes" "[I", Cond.fieldLink RX5 38 "HostKeyringModel" "names" "[I", Cond.fieldLink RX5 41 "HostKeyringModel" "places" "[I", Cond.fieldLink RX5 44 "HostKeyringModel" "ports" "[I", Cond.fieldLink RX5 47 "HostKeyringModel" "denied" "[Z"]
def wsX5_clean : List Cond := .code yX5_clean cX5_clean 4 (some .int) :: ((wsX5_clean_r1 ++ wsX5_clean_r2) ++ wsX50)
def wsX5_judge_r1 : List Cond := [Cond.methodLink RX5 171 yX5_isJudged, Cond.instanceMethod yX5_isJudged, Cond.selects RX5 yX5_isJudged yX5_isJudged, Cond.initialized RX5, Cond.code yX5_isJudged cX5_isJudged 5 (some .boolean), Cond.fieldLink RX5 142 "HostKeyringModel" "certificates" "I", Cond.methodLink RX5 87 yX5_isIn, Cond.static yX5_isIn, Cond.code yX5_isIn cX5_isIn 3 (some .boolean), Cond.methodLink RX5 168 yX5_areAsked, Cond.static yX5_areAsked, Cond.code yX5_areAsked cX5_areAsked 3 (some .boolean), Cond.methodLink RX5 121 yX5_isName, Cond.static yX5_isName, Cond.code yX5_isName cX5_isName 1 (some .boolean), Cond.methodLink RX5 124 yX5_isPort, Cond.static yX5_isPort, Cond.code yX5_isPort cX5_isPort 1 (some .boolean), Cond.methodLink RX5 108 yX5_isKey, Cond.static yX5_isKey, Cond.code yX5_isKey cX5_isKey 1 (some .boolean), Cond.methodLink RX5 111 yX5_holds, Cond.instanceMethod yX5_holds, Cond.selects RX5 yX5_holds yX5_holds]
def wsX5_judge_r2 : List Cond := [Cond.code yX5_holds cX5_holds 2 (some .boolean), Cond.fieldLink RX5 84 "HostKeyringModel" "thrown" "I", Cond.methodLink RX5 175 yX5_judgement, Cond.instanceMethod yX5_judgement, Cond.selects RX5 yX5_judgement yX5_judgement, Cond.code yX5_judgement cX5_judgement 9 (some .int), Cond.fieldLink RX5 51 "HostKeyringModel" "authorities" "[I", Cond.fieldLink RX5 54 "HostKeyringModel" "certKeys" "[I", Cond.fieldLink RX5 91 "HostKeyringModel" "lines" "I", Cond.fieldLink RX5 17 "HostKeyringModel" "marks" "[I", Cond.fieldLink RX5 13 "HostKeyringModel" "keys" "[I", Cond.methodLink RX5 157 yX5_has, Cond.instanceMethod yX5_has, Cond.selects RX5 yX5_has yX5_has, Cond.code yX5_has cX5_has 8 (some .boolean), Cond.methodLink RX5 151 yX5_hasEnded, Cond.instanceMethod yX5_hasEnded, Cond.selects RX5 yX5_hasEnded yX5_hasEnded, Cond.code yX5_hasEnded cX5_hasEnded 2 (some .boolean), Cond.fieldLink RX5 23 "HostKeyringModel" "ends" "[I", Cond.fieldLink RX5 101 "HostKeyringModel" "day" "I", Cond.methodLink RX5 154 yX5_isFor, Cond.instanceMethod yX5_isFor, Cond.selects RX5 yX5_isFor yX5_isFor]
def wsX5_judge_r3 : List Cond := [Cond.code yX5_isFor cX5_isFor 8 (some .boolean), Cond.fieldLink RX5 26 "HostKeyringModel" "salts" "[I", Cond.fieldLink RX5 32 "HostKeyringModel" "hashPorts" "[I", Cond.fieldLink RX5 29 "HostKeyringModel" "hashes" "[I", Cond.fieldLink RX5 35 "HostKeyringModel" "sizes" "[I", Cond.fieldLink RX5 44 "HostKeyringModel" "ports" "[I", Cond.fieldLink RX5 38 "HostKeyringModel" "names" "[I", Cond.fieldLink RX5 41 "HostKeyringModel" "places" "[I", Cond.fieldLink RX5 47 "HostKeyringModel" "denied" "[Z", Cond.methodLink RX5 94 yX5_hash, Cond.static yX5_hash, Cond.code yX5_hash cX5_hash 2 (some .int), Cond.methodLink RX5 98 yX5_areLike, Cond.static yX5_areLike, Cond.code yX5_areLike cX5_areLike 7 (some .boolean), Cond.methodLink RX5 161 yX5_isGood, Cond.instanceMethod yX5_isGood, Cond.selects RX5 yX5_isGood yX5_isGood, Cond.code yX5_isGood cX5_isGood 5 (some .boolean), Cond.fieldLink RX5 57 "HostKeyringModel" "certNames" "[I", Cond.fieldLink RX5 60 "HostKeyringModel" "certPlaces" "[I", Cond.fieldLink RX5 66 "HostKeyringModel" "firsts" "[I", Cond.fieldLink RX5 69 "HostKeyringModel" "lasts" "[I", Cond.methodLink RX5 148 yX5_isRevoked]
def wsX5_judge_r4 : List Cond := [Cond.instanceMethod yX5_isRevoked, Cond.selects RX5 yX5_isRevoked yX5_isRevoked, Cond.code yX5_isRevoked cX5_isRevoked 4 (some .boolean), Cond.fieldLink RX5 145 "HostKeyringModel" "spans" "I", Cond.fieldLink RX5 72 "HostKeyringModel" "spanOf" "[I", Cond.fieldLink RX5 63 "HostKeyringModel" "serials" "[I", Cond.fieldLink RX5 75 "HostKeyringModel" "froms" "[I", Cond.fieldLink RX5 78 "HostKeyringModel" "tos" "[I"]
def wsX5_judge : List Cond := .code yX5_judge cX5_judge 5 (some .int) :: ((wsX5_judge_r1 ++ (wsX5_judge_r2 ++ (wsX5_judge_r3 ++ wsX5_judge_r4))) ++ wsX50)
def wsX5_judgeByReading_r1 : List Cond := [Cond.methodLink RX5 168 yX5_areAsked, Cond.static yX5_areAsked, Cond.initialized RX5, Cond.code yX5_areAsked cX5_areAsked 3 (some .boolean), Cond.methodLink RX5 121 yX5_isName, Cond.static yX5_isName, Cond.code yX5_isName cX5_isName 1 (some .boolean), Cond.methodLink RX5 87 yX5_isIn, Cond.static yX5_isIn, Cond.code yX5_isIn cX5_isIn 3 (some .boolean), Cond.methodLink RX5 124 yX5_isPort, Cond.static yX5_isPort, Cond.code yX5_isPort cX5_isPort 1 (some .boolean), Cond.methodLink RX5 108 yX5_isKey, Cond.static yX5_isKey, Cond.code yX5_isKey cX5_isKey 1 (some .boolean), Cond.methodLink RX5 111 yX5_holds, Cond.instanceMethod yX5_holds, Cond.selects RX5 yX5_holds yX5_holds, Cond.code yX5_holds cX5_holds 2 (some .boolean), Cond.fieldLink RX5 84 "HostKeyringModel" "thrown" "I", Cond.methodLink RX5 175 yX5_judgement, Cond.instanceMethod yX5_judgement, Cond.selects RX5 yX5_judgement yX5_judgement]
def wsX5_judgeByReading_r2 : List Cond := [Cond.code yX5_judgement cX5_judgement 9 (some .int), Cond.fieldLink RX5 51 "HostKeyringModel" "authorities" "[I", Cond.fieldLink RX5 54 "HostKeyringModel" "certKeys" "[I", Cond.fieldLink RX5 91 "HostKeyringModel" "lines" "I", Cond.fieldLink RX5 17 "HostKeyringModel" "marks" "[I", Cond.fieldLink RX5 13 "HostKeyringModel" "keys" "[I", Cond.methodLink RX5 157 yX5_has, Cond.instanceMethod yX5_has, Cond.selects RX5 yX5_has yX5_has, Cond.code yX5_has cX5_has 8 (some .boolean), Cond.methodLink RX5 151 yX5_hasEnded, Cond.instanceMethod yX5_hasEnded, Cond.selects RX5 yX5_hasEnded yX5_hasEnded, Cond.code yX5_hasEnded cX5_hasEnded 2 (some .boolean), Cond.fieldLink RX5 23 "HostKeyringModel" "ends" "[I", Cond.fieldLink RX5 101 "HostKeyringModel" "day" "I", Cond.methodLink RX5 154 yX5_isFor, Cond.instanceMethod yX5_isFor, Cond.selects RX5 yX5_isFor yX5_isFor, Cond.code yX5_isFor cX5_isFor 8 (some .boolean), Cond.fieldLink RX5 26 "HostKeyringModel" "salts" "[I", Cond.fieldLink RX5 32 "HostKeyringModel" "hashPorts" "[I", Cond.fieldLink RX5 29 "HostKeyringModel" "hashes" "[I", Cond.fieldLink RX5 35 "HostKeyringModel" "sizes" "[I"]
def wsX5_judgeByReading_r3 : List Cond := [Cond.fieldLink RX5 44 "HostKeyringModel" "ports" "[I", Cond.fieldLink RX5 38 "HostKeyringModel" "names" "[I", Cond.fieldLink RX5 41 "HostKeyringModel" "places" "[I", Cond.fieldLink RX5 47 "HostKeyringModel" "denied" "[Z", Cond.methodLink RX5 94 yX5_hash, Cond.static yX5_hash, Cond.code yX5_hash cX5_hash 2 (some .int), Cond.methodLink RX5 98 yX5_areLike, Cond.static yX5_areLike, Cond.code yX5_areLike cX5_areLike 7 (some .boolean), Cond.methodLink RX5 161 yX5_isGood, Cond.instanceMethod yX5_isGood, Cond.selects RX5 yX5_isGood yX5_isGood, Cond.code yX5_isGood cX5_isGood 5 (some .boolean), Cond.fieldLink RX5 57 "HostKeyringModel" "certNames" "[I", Cond.fieldLink RX5 60 "HostKeyringModel" "certPlaces" "[I", Cond.fieldLink RX5 66 "HostKeyringModel" "firsts" "[I", Cond.fieldLink RX5 69 "HostKeyringModel" "lasts" "[I", Cond.methodLink RX5 148 yX5_isRevoked, Cond.instanceMethod yX5_isRevoked, Cond.selects RX5 yX5_isRevoked yX5_isRevoked, Cond.code yX5_isRevoked cX5_isRevoked 4 (some .boolean), Cond.fieldLink RX5 145 "HostKeyringModel" "spans" "I", Cond.fieldLink RX5 72 "HostKeyringModel" "spanOf" "[I"]
def wsX5_judgeByReading_r4 : List Cond := [Cond.fieldLink RX5 63 "HostKeyringModel" "serials" "[I", Cond.fieldLink RX5 75 "HostKeyringModel" "froms" "[I", Cond.fieldLink RX5 78 "HostKeyringModel" "tos" "[I"]
def wsX5_judgeByReading : List Cond := .code yX5_judgeByReading cX5_judgeByReading 4 (some .int) :: ((wsX5_judgeByReading_r1 ++ (wsX5_judgeByReading_r2 ++ (wsX5_judgeByReading_r3 ++ wsX5_judgeByReading_r4))) ++ wsX50)
def wsX5_day : List Cond := .code yX5_day cX5_day 1 (some .int) :: ([.fieldLink RX5 84 "HostKeyringModel" "thrown" "I", .fieldLink RX5 101 "HostKeyringModel" "day" "I"] ++ wsX50)
def wsX5_lines : List Cond := .code yX5_lines cX5_lines 1 (some .int) :: ([.fieldLink RX5 84 "HostKeyringModel" "thrown" "I", .fieldLink RX5 91 "HostKeyringModel" "lines" "I"] ++ wsX50)
def wsX5_keyOf : List Cond := .code yX5_keyOf cX5_keyOf 2 (some .int) :: ([.fieldLink RX5 17 "HostKeyringModel" "marks" "[I", .fieldLink RX5 13 "HostKeyringModel" "keys" "[I", .methodLink RX5 118 yX5_isLine, .instanceMethod yX5_isLine, .selects RX5 yX5_isLine yX5_isLine, .initialized RX5, .code yX5_isLine cX5_isLine 2 (some .boolean), .fieldLink RX5 91 "HostKeyringModel" "lines" "I", .methodLink RX5 87 yX5_isIn, .static yX5_isIn, .code yX5_isIn cX5_isIn 3 (some .boolean), .methodLink RX5 111 yX5_holds, .instanceMethod yX5_holds, .selects RX5 yX5_holds yX5_holds, .code yX5_holds cX5_holds 2 (some .boolean), .fieldLink RX5 84 "HostKeyringModel" "thrown" "I"] ++ wsX50)
def wsX5_seen : List Cond := .code yX5_seen cX5_seen 2 (some .int) :: ([.fieldLink RX5 20 "HostKeyringModel" "seen" "[I", .methodLink RX5 118 yX5_isLine, .instanceMethod yX5_isLine, .selects RX5 yX5_isLine yX5_isLine, .initialized RX5, .code yX5_isLine cX5_isLine 2 (some .boolean), .fieldLink RX5 91 "HostKeyringModel" "lines" "I", .methodLink RX5 87 yX5_isIn, .static yX5_isIn, .code yX5_isIn cX5_isIn 3 (some .boolean), .methodLink RX5 111 yX5_holds, .instanceMethod yX5_holds, .selects RX5 yX5_holds yX5_holds, .code yX5_holds cX5_holds 2 (some .boolean), .fieldLink RX5 84 "HostKeyringModel" "thrown" "I"] ++ wsX50)
def wsX5_end : List Cond := .code yX5_end cX5_end 2 (some .int) :: ([.fieldLink RX5 23 "HostKeyringModel" "ends" "[I", .methodLink RX5 118 yX5_isLine, .instanceMethod yX5_isLine, .selects RX5 yX5_isLine yX5_isLine, .initialized RX5, .code yX5_isLine cX5_isLine 2 (some .boolean), .fieldLink RX5 91 "HostKeyringModel" "lines" "I", .methodLink RX5 87 yX5_isIn, .static yX5_isIn, .code yX5_isIn cX5_isIn 3 (some .boolean), .methodLink RX5 111 yX5_holds, .instanceMethod yX5_holds, .selects RX5 yX5_holds yX5_holds, .code yX5_holds cX5_holds 2 (some .boolean), .fieldLink RX5 84 "HostKeyringModel" "thrown" "I"] ++ wsX50)
def wsX5_matches_r1 : List Cond := [Cond.methodLink RX5 118 yX5_isLine, Cond.instanceMethod yX5_isLine, Cond.selects RX5 yX5_isLine yX5_isLine, Cond.initialized RX5, Cond.code yX5_isLine cX5_isLine 2 (some .boolean), Cond.fieldLink RX5 91 "HostKeyringModel" "lines" "I", Cond.methodLink RX5 87 yX5_isIn, Cond.static yX5_isIn, Cond.code yX5_isIn cX5_isIn 3 (some .boolean), Cond.methodLink RX5 121 yX5_isName, Cond.static yX5_isName, Cond.code yX5_isName cX5_isName 1 (some .boolean), Cond.methodLink RX5 124 yX5_isPort, Cond.static yX5_isPort, Cond.code yX5_isPort cX5_isPort 1 (some .boolean), Cond.methodLink RX5 111 yX5_holds, Cond.instanceMethod yX5_holds, Cond.selects RX5 yX5_holds yX5_holds, Cond.code yX5_holds cX5_holds 2 (some .boolean), Cond.fieldLink RX5 84 "HostKeyringModel" "thrown" "I", Cond.methodLink RX5 154 yX5_isFor, Cond.instanceMethod yX5_isFor, Cond.selects RX5 yX5_isFor yX5_isFor, Cond.code yX5_isFor cX5_isFor 8 (some .boolean)]
def wsX5_matches_r2 : List Cond := [Cond.fieldLink RX5 26 "HostKeyringModel" "salts" "[I", Cond.fieldLink RX5 32 "HostKeyringModel" "hashPorts" "[I", Cond.fieldLink RX5 29 "HostKeyringModel" "hashes" "[I", Cond.fieldLink RX5 35 "HostKeyringModel" "sizes" "[I", Cond.fieldLink RX5 44 "HostKeyringModel" "ports" "[I", Cond.fieldLink RX5 38 "HostKeyringModel" "names" "[I", Cond.fieldLink RX5 41 "HostKeyringModel" "places" "[I", Cond.fieldLink RX5 47 "HostKeyringModel" "denied" "[Z", Cond.methodLink RX5 94 yX5_hash, Cond.static yX5_hash, Cond.code yX5_hash cX5_hash 2 (some .int), Cond.methodLink RX5 98 yX5_areLike, Cond.static yX5_areLike, Cond.code yX5_areLike cX5_areLike 7 (some .boolean)]
def wsX5_matches : List Cond := .code yX5_matches cX5_matches 4 (some .boolean) :: ((wsX5_matches_r1 ++ wsX5_matches_r2) ++ wsX50)
def wsX5_find_r1 : List Cond := [Cond.fieldLink RX5 91 "HostKeyringModel" "lines" "I", Cond.methodLink RX5 121 yX5_isName, Cond.static yX5_isName, Cond.initialized RX5, Cond.code yX5_isName cX5_isName 1 (some .boolean), Cond.methodLink RX5 87 yX5_isIn, Cond.static yX5_isIn, Cond.code yX5_isIn cX5_isIn 3 (some .boolean), Cond.methodLink RX5 124 yX5_isPort, Cond.static yX5_isPort, Cond.code yX5_isPort cX5_isPort 1 (some .boolean), Cond.methodLink RX5 111 yX5_holds, Cond.instanceMethod yX5_holds, Cond.selects RX5 yX5_holds yX5_holds, Cond.code yX5_holds cX5_holds 2 (some .boolean), Cond.fieldLink RX5 84 "HostKeyringModel" "thrown" "I", Cond.methodLink RX5 154 yX5_isFor, Cond.instanceMethod yX5_isFor, Cond.selects RX5 yX5_isFor yX5_isFor, Cond.code yX5_isFor cX5_isFor 8 (some .boolean), Cond.fieldLink RX5 26 "HostKeyringModel" "salts" "[I", Cond.fieldLink RX5 32 "HostKeyringModel" "hashPorts" "[I", Cond.fieldLink RX5 29 "HostKeyringModel" "hashes" "[I", Cond.fieldLink RX5 35 "HostKeyringModel" "sizes" "[I"]
def wsX5_find_r2 : List Cond := [Cond.fieldLink RX5 44 "HostKeyringModel" "ports" "[I", Cond.fieldLink RX5 38 "HostKeyringModel" "names" "[I", Cond.fieldLink RX5 41 "HostKeyringModel" "places" "[I", Cond.fieldLink RX5 47 "HostKeyringModel" "denied" "[Z", Cond.methodLink RX5 94 yX5_hash, Cond.static yX5_hash, Cond.code yX5_hash cX5_hash 2 (some .int), Cond.methodLink RX5 98 yX5_areLike, Cond.static yX5_areLike, Cond.code yX5_areLike cX5_areLike 7 (some .boolean)]
def wsX5_find : List Cond := .code yX5_find cX5_find 5 (some .int) :: ((wsX5_find_r1 ++ wsX5_find_r2) ++ wsX50)
def wsX5_linesOf : List Cond := .code yX5_linesOf cX5_linesOf 5 (some .long) :: ([.fieldLink RX5 91 "HostKeyringModel" "lines" "I", .fieldLink RX5 13 "HostKeyringModel" "keys" "[I", .methodLink RX5 108 yX5_isKey, .static yX5_isKey, .initialized RX5, .code yX5_isKey cX5_isKey 1 (some .boolean), .methodLink RX5 87 yX5_isIn, .static yX5_isIn, .code yX5_isIn cX5_isIn 3 (some .boolean), .methodLink RX5 111 yX5_holds, .instanceMethod yX5_holds, .selects RX5 yX5_holds yX5_holds, .code yX5_holds cX5_holds 2 (some .boolean), .fieldLink RX5 84 "HostKeyringModel" "thrown" "I"] ++ wsX50)
def wsX5_waiting : List Cond := .code yX5_waiting cX5_waiting 1 (some .int) :: ([.fieldLink RX5 84 "HostKeyringModel" "thrown" "I", .fieldLink RX5 81 "HostKeyringModel" "waitingKey" "I"] ++ wsX50)
def wsJ9_min_7cf53 : List Cond := .code yJ9_min_7cf53 cJ9_min_7cf53 2 (some .int) :: ([])
def wsL_addLine_r1 : List Cond := [Cond.classLink RL 13 "java/lang/IllegalArgumentException", Cond.classLink RL 15 "java/lang/IllegalStateException", Cond.methodLink RL 7 yX4_addLine, Cond.instanceMethod yX4_addLine, Cond.selects RX4 yX4_addLine yX4_addLine, Cond.initialized RX4, Cond.code yX4_addLine cX4_addLine 3 (some .int), Cond.fieldLink RX4 47 "HostKeyring" "lineCount" "I", Cond.methodLink RX4 35 yX4_requireWithin, Cond.static yX4_requireWithin, Cond.code yX4_requireWithin cX4_requireWithin 3 none, Cond.classLink RX4 129 "java/lang/IllegalArgumentException", Cond.initialized "java/lang/IllegalArgumentException", Cond.methodLink RX4 39 yX4_requireKey, Cond.static yX4_requireKey, Cond.code yX4_requireKey cX4_requireKey 1 none, Cond.methodLink RX4 43 yX4_appendLine, Cond.instanceMethod yX4_appendLine, Cond.selects RX4 yX4_appendLine yX4_appendLine, Cond.code yX4_appendLine cX4_appendLine 4 (some (.object "HostKeyring$Line")), Cond.classLink RX4 74 "java/lang/IllegalStateException", Cond.initialized "java/lang/IllegalStateException", Cond.fieldLink RX4 11 "HostKeyring" "book" "[LHostKeyring$Line;", Cond.fieldLink RX4 146 "HostKeyring" "day" "I"]
def wsL_addLine_r2 : List Cond := [Cond.methodLink RX4 179 yX1_begin, Cond.instanceMethod yX1_begin, Cond.selects RX1 yX1_begin yX1_begin, Cond.initialized RX1, Cond.code yX1_begin cX1_begin 4 none, Cond.fieldLink RX1 17 "HostKeyring$Line" "mark" "I", Cond.fieldLink RX1 21 "HostKeyring$Line" "key" "I", Cond.fieldLink RX1 24 "HostKeyring$Line" "seen" "I", Cond.fieldLink RX1 27 "HostKeyring$Line" "end" "I", Cond.fieldLink RX1 30 "HostKeyring$Line" "patternCount" "I", Cond.fieldLink RX1 33 "HostKeyring$Line" "isHashed" "Z"]
def wsL_addLine : List Cond := .codeWith yL_addLine cL_addLine 5 (some .int) [(0, 10, 13, 13), (0, 10, 17, 15)] :: ((wsL_addLine_r1 ++ wsL_addLine_r2) ++ wsX40 ++ wsX10 ++ (vx_atS RX4 133 "java/lang/IllegalArgumentException" ["java/lang/RuntimeException", "java/lang/Exception"]).filter goodWord ++ (vx_atS RX4 78 "java/lang/IllegalStateException" ["java/lang/RuntimeException", "java/lang/Exception"]).filter goodWord)
def wsL_addPattern_r1 : List Cond := [Cond.classLink RL 21 "java/lang/IndexOutOfBoundsException", Cond.classLink RL 13 "java/lang/IllegalArgumentException", Cond.classLink RL 15 "java/lang/IllegalStateException", Cond.methodLink RL 17 yX4_addPattern, Cond.instanceMethod yX4_addPattern, Cond.selects RX4 yX4_addPattern yX4_addPattern, Cond.initialized RX4, Cond.code yX4_addPattern cX4_addPattern 7 (some .int), Cond.methodLink RX4 50 yX4_lineAt, Cond.instanceMethod yX4_lineAt, Cond.selects RX4 yX4_lineAt yX4_lineAt, Cond.code yX4_lineAt cX4_lineAt 2 (some (.object "HostKeyring$Line")), Cond.classLink RX4 170 "java/lang/IndexOutOfBoundsException", Cond.initialized "java/lang/IndexOutOfBoundsException", Cond.fieldLink RX4 47 "HostKeyring" "lineCount" "I", Cond.fieldLink RX4 11 "HostKeyring" "book" "[LHostKeyring$Line;", Cond.methodLink RX4 54 yX4_requireNameAndPort, Cond.static yX4_requireNameAndPort, Cond.code yX4_requireNameAndPort cX4_requireNameAndPort 2 none, Cond.methodLink RX4 35 yX4_requireWithin, Cond.static yX4_requireWithin, Cond.code yX4_requireWithin cX4_requireWithin 3 none, Cond.classLink RX4 129 "java/lang/IllegalArgumentException", Cond.initialized "java/lang/IllegalArgumentException"]
def wsL_addPattern_r2 : List Cond := [Cond.methodLink RX4 58 yX1_takePattern, Cond.instanceMethod yX1_takePattern, Cond.selects RX1 yX1_takePattern yX1_takePattern, Cond.initialized RX1, Cond.code yX1_takePattern cX1_takePattern 5 (some .int), Cond.classLink RX1 37 "java/lang/IllegalStateException", Cond.initialized "java/lang/IllegalStateException", Cond.fieldLink RX1 33 "HostKeyring$Line" "isHashed" "Z", Cond.fieldLink RX1 30 "HostKeyring$Line" "patternCount" "I", Cond.fieldLink RX1 11 "HostKeyring$Line" "patterns" "[LHostKeyring$Pattern;", Cond.classLink RX1 9 RX2, Cond.instantiable RX2 4, Cond.initialized RX2, Cond.methodLink RX1 44 yX2_init, Cond.instanceMethod yX2_init, Cond.code yX2_init cX2_init 5 none, Cond.methodLink RX2 1 objectInit, Cond.instanceMethod objectInit, Cond.code objectInit ⟨#[0xb1]⟩ 1 none, Cond.fieldLink RX2 7 "HostKeyring$Pattern" "name" "I", Cond.fieldLink RX2 13 "HostKeyring$Pattern" "places" "I", Cond.fieldLink RX2 16 "HostKeyring$Pattern" "port" "I", Cond.fieldLink RX2 19 "HostKeyring$Pattern" "isDenied" "Z"]
def wsL_addPattern : List Cond := .codeWith yL_addPattern cL_addPattern 8 (some .int) [(0, 16, 19, 21), (0, 16, 23, 13), (0, 16, 27, 15)] :: ((wsL_addPattern_r1 ++ wsL_addPattern_r2) ++ wsX40 ++ wsX10 ++ wsX20 ++ (vx_atS RX4 174 "java/lang/IndexOutOfBoundsException" ["java/lang/RuntimeException", "java/lang/Exception"]).filter goodWord ++ (vx_atS RX4 133 "java/lang/IllegalArgumentException" ["java/lang/RuntimeException", "java/lang/Exception"]).filter goodWord ++ (vx_atS RX1 41 "java/lang/IllegalStateException" ["java/lang/RuntimeException", "java/lang/Exception"]).filter goodWord)
def wsL_addHashed_r1 : List Cond := [Cond.classLink RL 13 "java/lang/IllegalArgumentException", Cond.classLink RL 15 "java/lang/IllegalStateException", Cond.methodLink RL 23 yX4_addHashed, Cond.instanceMethod yX4_addHashed, Cond.selects RX4 yX4_addHashed yX4_addHashed, Cond.initialized RX4, Cond.code yX4_addHashed cX4_addHashed 6 (some .int), Cond.fieldLink RX4 47 "HostKeyring" "lineCount" "I", Cond.methodLink RX4 35 yX4_requireWithin, Cond.static yX4_requireWithin, Cond.code yX4_requireWithin cX4_requireWithin 3 none, Cond.classLink RX4 129 "java/lang/IllegalArgumentException", Cond.initialized "java/lang/IllegalArgumentException", Cond.methodLink RX4 39 yX4_requireKey, Cond.static yX4_requireKey, Cond.code yX4_requireKey cX4_requireKey 1 none, Cond.methodLink RX4 54 yX4_requireNameAndPort, Cond.static yX4_requireNameAndPort, Cond.code yX4_requireNameAndPort cX4_requireNameAndPort 2 none, Cond.methodLink RX4 43 yX4_appendLine, Cond.instanceMethod yX4_appendLine, Cond.selects RX4 yX4_appendLine yX4_appendLine, Cond.code yX4_appendLine cX4_appendLine 4 (some (.object "HostKeyring$Line")), Cond.classLink RX4 74 "java/lang/IllegalStateException"]
def wsL_addHashed_r2 : List Cond := [Cond.initialized "java/lang/IllegalStateException", Cond.fieldLink RX4 11 "HostKeyring" "book" "[LHostKeyring$Line;", Cond.fieldLink RX4 146 "HostKeyring" "day" "I", Cond.methodLink RX4 179 yX1_begin, Cond.instanceMethod yX1_begin, Cond.selects RX1 yX1_begin yX1_begin, Cond.initialized RX1, Cond.code yX1_begin cX1_begin 4 none, Cond.fieldLink RX1 17 "HostKeyring$Line" "mark" "I", Cond.fieldLink RX1 21 "HostKeyring$Line" "key" "I", Cond.fieldLink RX1 24 "HostKeyring$Line" "seen" "I", Cond.fieldLink RX1 27 "HostKeyring$Line" "end" "I", Cond.fieldLink RX1 30 "HostKeyring$Line" "patternCount" "I", Cond.fieldLink RX1 33 "HostKeyring$Line" "isHashed" "Z", Cond.methodLink RX4 62 yX1_takeHash, Cond.instanceMethod yX1_takeHash, Cond.selects RX1 yX1_takeHash yX1_takeHash, Cond.code yX1_takeHash cX1_takeHash 4 none, Cond.fieldLink RX1 51 "HostKeyring$Line" "hash" "I", Cond.fieldLink RX1 54 "HostKeyring$Line" "hashSalt" "I", Cond.fieldLink RX1 57 "HostKeyring$Line" "hashPort" "I", Cond.methodLink RX1 47 yX1_hashOf, Cond.static yX1_hashOf, Cond.code yX1_hashOf cX1_hashOf 2 (some .int)]
def wsL_addHashed : List Cond := .codeWith yL_addHashed cL_addHashed 8 (some .int) [(0, 16, 19, 13), (0, 16, 23, 15)] :: ((wsL_addHashed_r1 ++ wsL_addHashed_r2) ++ wsX40 ++ wsX10 ++ (vx_atS RX4 133 "java/lang/IllegalArgumentException" ["java/lang/RuntimeException", "java/lang/Exception"]).filter goodWord ++ (vx_atS RX4 78 "java/lang/IllegalStateException" ["java/lang/RuntimeException", "java/lang/Exception"]).filter goodWord)
def wsL_remove : List Cond := .codeWith yL_remove cL_remove 4 (some .int) [(0, 9, 12, 21)] :: ([.classLink RL 21 "java/lang/IndexOutOfBoundsException", .methodLink RL 27 yX4_remove, .instanceMethod yX4_remove, .selects RX4 yX4_remove yX4_remove, .initialized RX4, .code yX4_remove cX4_remove 3 (some .int), .methodLink RX4 50 yX4_lineAt, .instanceMethod yX4_lineAt, .selects RX4 yX4_lineAt yX4_lineAt, .code yX4_lineAt cX4_lineAt 2 (some (.object "HostKeyring$Line")), .classLink RX4 170 "java/lang/IndexOutOfBoundsException", .initialized "java/lang/IndexOutOfBoundsException", .fieldLink RX4 47 "HostKeyring" "lineCount" "I", .fieldLink RX4 11 "HostKeyring" "book" "[LHostKeyring$Line;", .methodLink RX4 68 yX4_takeOut, .instanceMethod yX4_takeOut, .selects RX4 yX4_takeOut yX4_takeOut, .code yX4_takeOut cX4_takeOut 4 none] ++ wsX10 ++ wsX40 ++ (vx_atS RX4 174 "java/lang/IndexOutOfBoundsException" ["java/lang/RuntimeException", "java/lang/Exception"]).filter goodWord)
def wsL_certify_r1 : List Cond := [Cond.classLink RL 13 "java/lang/IllegalArgumentException", Cond.classLink RL 15 "java/lang/IllegalStateException", Cond.methodLink RL 31 yX4_certify, Cond.instanceMethod yX4_certify, Cond.selects RX4 yX4_certify yX4_certify, Cond.initialized RX4, Cond.code yX4_certify cX4_certify 8 (some .int), Cond.classLink RX4 74 "java/lang/IllegalStateException", Cond.initialized "java/lang/IllegalStateException", Cond.fieldLink RX4 71 "HostKeyring" "certificateCount" "I", Cond.fieldLink RX4 17 "HostKeyring" "certificates" "[LHostKeyring$Certificate;", Cond.classLink RX4 15 RX0, Cond.instantiable RX0 7, Cond.initialized RX0, Cond.methodLink RX4 39 yX4_requireKey, Cond.static yX4_requireKey, Cond.code yX4_requireKey cX4_requireKey 1 none, Cond.methodLink RX4 35 yX4_requireWithin, Cond.static yX4_requireWithin, Cond.code yX4_requireWithin cX4_requireWithin 3 none, Cond.classLink RX4 129 "java/lang/IllegalArgumentException", Cond.initialized "java/lang/IllegalArgumentException", Cond.methodLink RX4 81 yX0_init, Cond.instanceMethod yX0_init]
def wsL_certify_r2 : List Cond := [Cond.code yX0_init cX0_init 8 none, Cond.methodLink RX0 1 objectInit, Cond.instanceMethod objectInit, Cond.code objectInit ⟨#[0xb1]⟩ 1 none, Cond.fieldLink RX0 7 "HostKeyring$Certificate" "authority" "I", Cond.fieldLink RX0 13 "HostKeyring$Certificate" "key" "I", Cond.fieldLink RX0 16 "HostKeyring$Certificate" "name" "I", Cond.fieldLink RX0 19 "HostKeyring$Certificate" "places" "I", Cond.fieldLink RX0 22 "HostKeyring$Certificate" "serial" "I", Cond.fieldLink RX0 25 "HostKeyring$Certificate" "first" "I", Cond.fieldLink RX0 28 "HostKeyring$Certificate" "last" "I"]
def wsL_certify : List Cond := .codeWith yL_certify cL_certify 10 (some .int) [(0, 20, 23, 13), (0, 20, 27, 15)] :: ((wsL_certify_r1 ++ wsL_certify_r2) ++ wsX40 ++ wsX00 ++ (vx_atS RX4 78 "java/lang/IllegalStateException" ["java/lang/RuntimeException", "java/lang/Exception"]).filter goodWord ++ (vx_atS RX4 133 "java/lang/IllegalArgumentException" ["java/lang/RuntimeException", "java/lang/Exception"]).filter goodWord)
def wsL_revokeSpan_r1 : List Cond := [Cond.classLink RL 13 "java/lang/IllegalArgumentException", Cond.classLink RL 15 "java/lang/IllegalStateException", Cond.methodLink RL 35 yX4_revokeSpan, Cond.instanceMethod yX4_revokeSpan, Cond.selects RX4 yX4_revokeSpan yX4_revokeSpan, Cond.initialized RX4, Cond.code yX4_revokeSpan cX4_revokeSpan 4 (some .int), Cond.classLink RX4 74 "java/lang/IllegalStateException", Cond.initialized "java/lang/IllegalStateException", Cond.fieldLink RX4 84 "HostKeyring" "spanCount" "I", Cond.fieldLink RX4 23 "HostKeyring" "spans" "[LHostKeyring$Span;", Cond.classLink RX4 21 RX3, Cond.instantiable RX3 3, Cond.initialized RX3, Cond.methodLink RX4 39 yX4_requireKey, Cond.static yX4_requireKey, Cond.code yX4_requireKey cX4_requireKey 1 none, Cond.methodLink RX4 35 yX4_requireWithin, Cond.static yX4_requireWithin, Cond.code yX4_requireWithin cX4_requireWithin 3 none, Cond.classLink RX4 129 "java/lang/IllegalArgumentException", Cond.initialized "java/lang/IllegalArgumentException", Cond.methodLink RX4 89 yX3_init, Cond.instanceMethod yX3_init]
def wsL_revokeSpan_r2 : List Cond := [Cond.code yX3_init cX3_init 4 none, Cond.methodLink RX3 1 objectInit, Cond.instanceMethod objectInit, Cond.code objectInit ⟨#[0xb1]⟩ 1 none, Cond.fieldLink RX3 7 "HostKeyring$Span" "authority" "I", Cond.fieldLink RX3 13 "HostKeyring$Span" "from" "I", Cond.fieldLink RX3 16 "HostKeyring$Span" "to" "I", Cond.methodLink RX4 91 yX4_countRevokedCertificates, Cond.instanceMethod yX4_countRevokedCertificates, Cond.selects RX4 yX4_countRevokedCertificates yX4_countRevokedCertificates, Cond.code yX4_countRevokedCertificates cX4_countRevokedCertificates 3 (some .int), Cond.fieldLink RX4 71 "HostKeyring" "certificateCount" "I", Cond.fieldLink RX4 17 "HostKeyring" "certificates" "[LHostKeyring$Certificate;", Cond.methodLink RX4 238 yX4_isInRevokedSpan, Cond.instanceMethod yX4_isInRevokedSpan, Cond.selects RX4 yX4_isInRevokedSpan yX4_isInRevokedSpan, Cond.code yX4_isInRevokedSpan cX4_isInRevokedSpan 3 (some .boolean), Cond.methodLink RX4 248 yX3_holds, Cond.instanceMethod yX3_holds, Cond.selects RX3 yX3_holds yX3_holds, Cond.code yX3_holds cX3_holds 3 (some .boolean)]
def wsL_revokeSpan : List Cond := .codeWith yL_revokeSpan cL_revokeSpan 6 (some .int) [(0, 12, 15, 13), (0, 12, 19, 15)] :: ((wsL_revokeSpan_r1 ++ wsL_revokeSpan_r2) ++ wsX40 ++ wsX30 ++ wsX00 ++ (vx_atS RX4 78 "java/lang/IllegalStateException" ["java/lang/RuntimeException", "java/lang/Exception"]).filter goodWord ++ (vx_atS RX4 133 "java/lang/IllegalArgumentException" ["java/lang/RuntimeException", "java/lang/Exception"]).filter goodWord)
def wsL_setFirstSight : List Cond := .codeWith yL_setFirstSight cL_setFirstSight 5 (some .int) [(0, 10, 13, 13)] :: ([.classLink RL 13 "java/lang/IllegalArgumentException", .methodLink RL 39 yX4_setFirstSight, .instanceMethod yX4_setFirstSight, .selects RX4 yX4_setFirstSight yX4_setFirstSight, .initialized RX4, .code yX4_setFirstSight cX4_setFirstSight 4 (some .int), .fieldLink RX4 27 "HostKeyring" "firstSight" "I", .fieldLink RX4 95 "HostKeyring" "isHashing" "Z", .methodLink RX4 35 yX4_requireWithin, .static yX4_requireWithin, .code yX4_requireWithin cX4_requireWithin 3 none, .classLink RX4 129 "java/lang/IllegalArgumentException", .initialized "java/lang/IllegalArgumentException"] ++ wsX40 ++ (vx_atS RX4 133 "java/lang/IllegalArgumentException" ["java/lang/RuntimeException", "java/lang/Exception"]).filter goodWord)
def wsL_answer_r1 : List Cond := [Cond.classLink RL 21 "java/lang/IndexOutOfBoundsException", Cond.classLink RL 13 "java/lang/IllegalArgumentException", Cond.methodLink RL 43 yX4_answer, Cond.instanceMethod yX4_answer, Cond.selects RX4 yX4_answer yX4_answer, Cond.initialized RX4, Cond.code yX4_answer cX4_answer 7 (some .int), Cond.fieldLink RX4 31 "HostKeyring" "waitingKey" "I", Cond.fieldLink RX4 27 "HostKeyring" "firstSight" "I", Cond.fieldLink RX4 47 "HostKeyring" "lineCount" "I", Cond.methodLink RX4 99 yX4_certificateAt, Cond.instanceMethod yX4_certificateAt, Cond.selects RX4 yX4_certificateAt yX4_certificateAt, Cond.code yX4_certificateAt cX4_certificateAt 2 (some (.object "HostKeyring$Certificate")), Cond.classLink RX4 170 "java/lang/IndexOutOfBoundsException", Cond.initialized "java/lang/IndexOutOfBoundsException", Cond.fieldLink RX4 71 "HostKeyring" "certificateCount" "I", Cond.fieldLink RX4 17 "HostKeyring" "certificates" "[LHostKeyring$Certificate;", Cond.methodLink RX4 54 yX4_requireNameAndPort, Cond.static yX4_requireNameAndPort, Cond.code yX4_requireNameAndPort cX4_requireNameAndPort 2 none, Cond.methodLink RX4 35 yX4_requireWithin, Cond.static yX4_requireWithin, Cond.code yX4_requireWithin cX4_requireWithin 3 none]
def wsL_answer_r2 : List Cond := [Cond.classLink RX4 129 "java/lang/IllegalArgumentException", Cond.initialized "java/lang/IllegalArgumentException", Cond.methodLink RX4 39 yX4_requireKey, Cond.static yX4_requireKey, Cond.code yX4_requireKey cX4_requireKey 1 none, Cond.methodLink RX4 103 yX4_judgementOf, Cond.instanceMethod yX4_judgementOf, Cond.selects RX4 yX4_judgementOf yX4_judgementOf, Cond.code yX4_judgementOf cX4_judgementOf 6 (some .int), Cond.methodLink RX4 107 yX4_authorityOf, Cond.static yX4_authorityOf, Cond.code yX4_authorityOf cX4_authorityOf 1 (some .int), Cond.methodLink RX4 134 yX4_judgementByLines, Cond.instanceMethod yX4_judgementByLines, Cond.selects RX4 yX4_judgementByLines yX4_judgementByLines, Cond.code yX4_judgementByLines cX4_judgementByLines 7 (some .int), Cond.fieldLink RX4 11 "HostKeyring" "book" "[LHostKeyring$Line;", Cond.methodLink RX4 209 Lib.Math.min.name, Cond.static Lib.Math.min.name, Cond.initialized "java/lang/Math", Cond.code Lib.Math.min.name Lib.Math.min.code 2 (some .int), Cond.methodLink RX4 164 yX1_covers, Cond.instanceMethod yX1_covers, Cond.selects RX1 yX1_covers yX1_covers]
def wsL_answer_r3 : List Cond := [Cond.initialized RX1, Cond.code yX1_covers cX1_covers 6 (some .boolean), Cond.fieldLink RX1 33 "HostKeyring$Line" "isHashed" "Z", Cond.fieldLink RX1 57 "HostKeyring$Line" "hashPort" "I", Cond.fieldLink RX1 54 "HostKeyring$Line" "hashSalt" "I", Cond.fieldLink RX1 51 "HostKeyring$Line" "hash" "I", Cond.fieldLink RX1 30 "HostKeyring$Line" "patternCount" "I", Cond.fieldLink RX1 11 "HostKeyring$Line" "patterns" "[LHostKeyring$Pattern;", Cond.methodLink RX1 47 yX1_hashOf, Cond.static yX1_hashOf, Cond.code yX1_hashOf cX1_hashOf 2 (some .int), Cond.methodLink RX1 60 yX2_fits, Cond.instanceMethod yX2_fits, Cond.selects RX2 yX2_fits yX2_fits, Cond.initialized RX2, Cond.code yX2_fits cX2_fits 3 (some .boolean), Cond.fieldLink RX2 16 "HostKeyring$Pattern" "port" "I", Cond.fieldLink RX2 13 "HostKeyring$Pattern" "places" "I", Cond.fieldLink RX2 7 "HostKeyring$Pattern" "name" "I", Cond.static yX4_isSameAt, Cond.code yX4_isSameAt cX4_isSameAt 7 (some .boolean), Cond.methodLink RX4 205 yX4_judgementByMatch, Cond.instanceMethod yX4_judgementByMatch, Cond.selects RX4 yX4_judgementByMatch yX4_judgementByMatch]
def wsL_answer_r4 : List Cond := [Cond.code yX4_judgementByMatch cX4_judgementByMatch 4 (some .int), Cond.methodLink RX4 197 yX1_hasEither, Cond.instanceMethod yX1_hasEither, Cond.selects RX1 yX1_hasEither yX1_hasEither, Cond.code yX1_hasEither cX1_hasEither 3 (some .boolean), Cond.fieldLink RX1 21 "HostKeyring$Line" "key" "I", Cond.methodLink RX4 182 yX4_isLivePlain, Cond.instanceMethod yX4_isLivePlain, Cond.selects RX4 yX4_isLivePlain yX4_isLivePlain, Cond.code yX4_isLivePlain cX4_isLivePlain 2 (some .boolean), Cond.fieldLink RX4 146 "HostKeyring" "day" "I", Cond.methodLink RX4 193 yX1_hasEnded, Cond.instanceMethod yX1_hasEnded, Cond.selects RX1 yX1_hasEnded yX1_hasEnded, Cond.code yX1_hasEnded cX1_hasEnded 2 (some .boolean), Cond.fieldLink RX1 27 "HostKeyring$Line" "end" "I", Cond.methodLink RX4 215 yX4_kindOf, Cond.static yX4_kindOf, Cond.code yX4_kindOf cX4_kindOf 1 (some .int), Cond.methodLink RX4 201 yX4_isGood, Cond.instanceMethod yX4_isGood, Cond.selects RX4 yX4_isGood yX4_isGood, Cond.code yX4_isGood cX4_isGood 4 (some .boolean), Cond.methodLink RX4 228 yX4_isSameAt]
def wsL_answer_r5 : List Cond := [Cond.methodLink RX4 238 yX4_isInRevokedSpan, Cond.instanceMethod yX4_isInRevokedSpan, Cond.selects RX4 yX4_isInRevokedSpan yX4_isInRevokedSpan, Cond.code yX4_isInRevokedSpan cX4_isInRevokedSpan 3 (some .boolean), Cond.fieldLink RX4 84 "HostKeyring" "spanCount" "I", Cond.fieldLink RX4 23 "HostKeyring" "spans" "[LHostKeyring$Span;", Cond.methodLink RX4 248 yX3_holds, Cond.instanceMethod yX3_holds, Cond.selects RX3 yX3_holds yX3_holds, Cond.initialized RX3, Cond.code yX3_holds cX3_holds 3 (some .boolean), Cond.fieldLink RX3 7 "HostKeyring$Span" "authority" "I", Cond.fieldLink RX3 13 "HostKeyring$Span" "from" "I", Cond.fieldLink RX3 16 "HostKeyring$Span" "to" "I", Cond.methodLink RX4 242 yX4_hasAuthority, Cond.instanceMethod yX4_hasAuthority, Cond.selects RX4 yX4_hasAuthority yX4_hasAuthority, Cond.code yX4_hasAuthority cX4_hasAuthority 6 (some .boolean), Cond.methodLink RX4 111 yX4_seeToday, Cond.instanceMethod yX4_seeToday, Cond.selects RX4 yX4_seeToday yX4_seeToday, Cond.code yX4_seeToday cX4_seeToday 7 none, Cond.methodLink RX4 115 yX4_letWait, Cond.instanceMethod yX4_letWait]
def wsL_answer_r6 : List Cond := [Cond.selects RX4 yX4_letWait yX4_letWait, Cond.code yX4_letWait cX4_letWait 4 none, Cond.fieldLink RX4 123 "HostKeyring" "waitingName" "I", Cond.fieldLink RX4 126 "HostKeyring" "waitingPort" "I", Cond.methodLink RX4 118 yX4_appendSighted, Cond.instanceMethod yX4_appendSighted, Cond.selects RX4 yX4_appendSighted yX4_appendSighted, Cond.code yX4_appendSighted cX4_appendSighted 5 none, Cond.fieldLink RX4 95 "HostKeyring" "isHashing" "Z", Cond.methodLink RX4 43 yX4_appendLine, Cond.instanceMethod yX4_appendLine, Cond.selects RX4 yX4_appendLine yX4_appendLine, Cond.code yX4_appendLine cX4_appendLine 4 (some (.object "HostKeyring$Line")), Cond.classLink RX4 74 "java/lang/IllegalStateException", Cond.initialized "java/lang/IllegalStateException", Cond.methodLink RX4 179 yX1_begin, Cond.instanceMethod yX1_begin, Cond.selects RX1 yX1_begin yX1_begin, Cond.code yX1_begin cX1_begin 4 none, Cond.fieldLink RX1 17 "HostKeyring$Line" "mark" "I", Cond.fieldLink RX1 24 "HostKeyring$Line" "seen" "I", Cond.methodLink RX4 62 yX1_takeHash, Cond.instanceMethod yX1_takeHash, Cond.selects RX1 yX1_takeHash yX1_takeHash]
def wsL_answer_r7 : List Cond := [Cond.code yX1_takeHash cX1_takeHash 4 none, Cond.methodLink RX4 58 yX1_takePattern, Cond.instanceMethod yX1_takePattern, Cond.selects RX1 yX1_takePattern yX1_takePattern, Cond.code yX1_takePattern cX1_takePattern 5 (some .int), Cond.classLink RX1 37 "java/lang/IllegalStateException", Cond.classLink RX1 9 RX2, Cond.instantiable RX2 4, Cond.methodLink RX1 44 yX2_init, Cond.instanceMethod yX2_init, Cond.code yX2_init cX2_init 5 none, Cond.methodLink RX2 1 objectInit, Cond.instanceMethod objectInit, Cond.code objectInit ⟨#[0xb1]⟩ 1 none, Cond.fieldLink RX2 19 "HostKeyring$Pattern" "isDenied" "Z"]
def wsL_answer : List Cond := .codeWith yL_answer cL_answer 7 (some .int) [(0, 14, 17, 21), (0, 14, 21, 13)] :: ((wsL_answer_r1 ++ (wsL_answer_r2 ++ (wsL_answer_r3 ++ (wsL_answer_r4 ++ (wsL_answer_r5 ++ (wsL_answer_r6 ++ wsL_answer_r7)))))) ++ wsX40 ++ wsX00 ++ wsX10 ++ wsX20 ++ wsX30 ++ (vx_atS RX4 174 "java/lang/IndexOutOfBoundsException" ["java/lang/RuntimeException", "java/lang/Exception"]).filter goodWord ++ (vx_atS RX4 133 "java/lang/IllegalArgumentException" ["java/lang/RuntimeException", "java/lang/Exception"]).filter goodWord ++ (vx_atS RX4 78 "java/lang/IllegalStateException" ["java/lang/RuntimeException", "java/lang/Exception"]).filter goodWord ++ (vx_atS RX1 41 "java/lang/IllegalStateException" ["java/lang/RuntimeException", "java/lang/Exception"]).filter goodWord)
def wsL_confirm_r1 : List Cond := [Cond.classLink RL 15 "java/lang/IllegalStateException", Cond.methodLink RL 47 yX4_confirm, Cond.instanceMethod yX4_confirm, Cond.selects RX4 yX4_confirm yX4_confirm, Cond.initialized RX4, Cond.code yX4_confirm cX4_confirm 1 (some .int), Cond.classLink RX4 74 "java/lang/IllegalStateException", Cond.initialized "java/lang/IllegalStateException", Cond.fieldLink RX4 31 "HostKeyring" "waitingKey" "I", Cond.fieldLink RX4 123 "HostKeyring" "waitingName" "I", Cond.fieldLink RX4 126 "HostKeyring" "waitingPort" "I", Cond.fieldLink RX4 47 "HostKeyring" "lineCount" "I", Cond.methodLink RX4 118 yX4_appendSighted, Cond.instanceMethod yX4_appendSighted, Cond.selects RX4 yX4_appendSighted yX4_appendSighted, Cond.code yX4_appendSighted cX4_appendSighted 5 none, Cond.fieldLink RX4 95 "HostKeyring" "isHashing" "Z", Cond.methodLink RX4 43 yX4_appendLine, Cond.instanceMethod yX4_appendLine, Cond.selects RX4 yX4_appendLine yX4_appendLine, Cond.code yX4_appendLine cX4_appendLine 4 (some (.object "HostKeyring$Line")), Cond.fieldLink RX4 11 "HostKeyring" "book" "[LHostKeyring$Line;", Cond.fieldLink RX4 146 "HostKeyring" "day" "I", Cond.methodLink RX4 179 yX1_begin]
def wsL_confirm_r2 : List Cond := [Cond.instanceMethod yX1_begin, Cond.selects RX1 yX1_begin yX1_begin, Cond.initialized RX1, Cond.code yX1_begin cX1_begin 4 none, Cond.fieldLink RX1 17 "HostKeyring$Line" "mark" "I", Cond.fieldLink RX1 21 "HostKeyring$Line" "key" "I", Cond.fieldLink RX1 24 "HostKeyring$Line" "seen" "I", Cond.fieldLink RX1 27 "HostKeyring$Line" "end" "I", Cond.fieldLink RX1 30 "HostKeyring$Line" "patternCount" "I", Cond.fieldLink RX1 33 "HostKeyring$Line" "isHashed" "Z", Cond.methodLink RX4 62 yX1_takeHash, Cond.instanceMethod yX1_takeHash, Cond.selects RX1 yX1_takeHash yX1_takeHash, Cond.code yX1_takeHash cX1_takeHash 4 none, Cond.fieldLink RX1 51 "HostKeyring$Line" "hash" "I", Cond.fieldLink RX1 54 "HostKeyring$Line" "hashSalt" "I", Cond.fieldLink RX1 57 "HostKeyring$Line" "hashPort" "I", Cond.methodLink RX1 47 yX1_hashOf, Cond.static yX1_hashOf, Cond.code yX1_hashOf cX1_hashOf 2 (some .int), Cond.methodLink RX4 58 yX1_takePattern, Cond.instanceMethod yX1_takePattern, Cond.selects RX1 yX1_takePattern yX1_takePattern, Cond.code yX1_takePattern cX1_takePattern 5 (some .int)]
def wsL_confirm_r3 : List Cond := [Cond.classLink RX1 37 "java/lang/IllegalStateException", Cond.fieldLink RX1 11 "HostKeyring$Line" "patterns" "[LHostKeyring$Pattern;", Cond.classLink RX1 9 RX2, Cond.instantiable RX2 4, Cond.initialized RX2, Cond.methodLink RX1 44 yX2_init, Cond.instanceMethod yX2_init, Cond.code yX2_init cX2_init 5 none, Cond.methodLink RX2 1 objectInit, Cond.instanceMethod objectInit, Cond.code objectInit ⟨#[0xb1]⟩ 1 none, Cond.fieldLink RX2 7 "HostKeyring$Pattern" "name" "I", Cond.fieldLink RX2 13 "HostKeyring$Pattern" "places" "I", Cond.fieldLink RX2 16 "HostKeyring$Pattern" "port" "I", Cond.fieldLink RX2 19 "HostKeyring$Pattern" "isDenied" "Z"]
def wsL_confirm : List Cond := .codeWith yL_confirm cL_confirm 3 (some .int) [(0, 8, 11, 15)] :: ((wsL_confirm_r1 ++ (wsL_confirm_r2 ++ wsL_confirm_r3)) ++ wsX40 ++ wsX10 ++ wsX20 ++ (vx_atS RX4 78 "java/lang/IllegalStateException" ["java/lang/RuntimeException", "java/lang/Exception"]).filter goodWord ++ (vx_atS RX1 41 "java/lang/IllegalStateException" ["java/lang/RuntimeException", "java/lang/Exception"]).filter goodWord)
def wsL_turn_r1 : List Cond := [Cond.classLink RL 13 "java/lang/IllegalArgumentException", Cond.classLink RL 15 "java/lang/IllegalStateException", Cond.methodLink RL 51 yX4_turn, Cond.instanceMethod yX4_turn, Cond.selects RX4 yX4_turn yX4_turn, Cond.initialized RX4, Cond.code yX4_turn cX4_turn 6 (some .int), Cond.classLink RX4 129 "java/lang/IllegalArgumentException", Cond.initialized "java/lang/IllegalArgumentException", Cond.classLink RX4 74 "java/lang/IllegalStateException", Cond.initialized "java/lang/IllegalStateException", Cond.methodLink RX4 54 yX4_requireNameAndPort, Cond.static yX4_requireNameAndPort, Cond.code yX4_requireNameAndPort cX4_requireNameAndPort 2 none, Cond.methodLink RX4 35 yX4_requireWithin, Cond.static yX4_requireWithin, Cond.code yX4_requireWithin cX4_requireWithin 3 none, Cond.methodLink RX4 39 yX4_requireKey, Cond.static yX4_requireKey, Cond.code yX4_requireKey cX4_requireKey 1 none, Cond.methodLink RX4 134 yX4_judgementByLines, Cond.instanceMethod yX4_judgementByLines, Cond.selects RX4 yX4_judgementByLines yX4_judgementByLines, Cond.code yX4_judgementByLines cX4_judgementByLines 7 (some .int)]
def wsL_turn_r2 : List Cond := [Cond.fieldLink RX4 47 "HostKeyring" "lineCount" "I", Cond.fieldLink RX4 11 "HostKeyring" "book" "[LHostKeyring$Line;", Cond.methodLink RX4 209 Lib.Math.min.name, Cond.static Lib.Math.min.name, Cond.initialized "java/lang/Math", Cond.code Lib.Math.min.name Lib.Math.min.code 2 (some .int), Cond.methodLink RX4 164 yX1_covers, Cond.instanceMethod yX1_covers, Cond.selects RX1 yX1_covers yX1_covers, Cond.initialized RX1, Cond.code yX1_covers cX1_covers 6 (some .boolean), Cond.fieldLink RX1 33 "HostKeyring$Line" "isHashed" "Z", Cond.fieldLink RX1 57 "HostKeyring$Line" "hashPort" "I", Cond.fieldLink RX1 54 "HostKeyring$Line" "hashSalt" "I", Cond.fieldLink RX1 51 "HostKeyring$Line" "hash" "I", Cond.fieldLink RX1 30 "HostKeyring$Line" "patternCount" "I", Cond.fieldLink RX1 11 "HostKeyring$Line" "patterns" "[LHostKeyring$Pattern;", Cond.methodLink RX1 47 yX1_hashOf, Cond.static yX1_hashOf, Cond.code yX1_hashOf cX1_hashOf 2 (some .int), Cond.methodLink RX1 60 yX2_fits, Cond.instanceMethod yX2_fits, Cond.selects RX2 yX2_fits yX2_fits, Cond.initialized RX2]
def wsL_turn_r3 : List Cond := [Cond.code yX2_fits cX2_fits 3 (some .boolean), Cond.fieldLink RX2 16 "HostKeyring$Pattern" "port" "I", Cond.fieldLink RX2 13 "HostKeyring$Pattern" "places" "I", Cond.fieldLink RX2 7 "HostKeyring$Pattern" "name" "I", Cond.static yX4_isSameAt, Cond.code yX4_isSameAt cX4_isSameAt 7 (some .boolean), Cond.methodLink RX4 205 yX4_judgementByMatch, Cond.instanceMethod yX4_judgementByMatch, Cond.selects RX4 yX4_judgementByMatch yX4_judgementByMatch, Cond.code yX4_judgementByMatch cX4_judgementByMatch 4 (some .int), Cond.methodLink RX4 197 yX1_hasEither, Cond.instanceMethod yX1_hasEither, Cond.selects RX1 yX1_hasEither yX1_hasEither, Cond.code yX1_hasEither cX1_hasEither 3 (some .boolean), Cond.fieldLink RX1 21 "HostKeyring$Line" "key" "I", Cond.methodLink RX4 182 yX4_isLivePlain, Cond.instanceMethod yX4_isLivePlain, Cond.selects RX4 yX4_isLivePlain yX4_isLivePlain, Cond.code yX4_isLivePlain cX4_isLivePlain 2 (some .boolean), Cond.fieldLink RX4 146 "HostKeyring" "day" "I", Cond.methodLink RX4 193 yX1_hasEnded, Cond.instanceMethod yX1_hasEnded, Cond.selects RX1 yX1_hasEnded yX1_hasEnded, Cond.code yX1_hasEnded cX1_hasEnded 2 (some .boolean)]
def wsL_turn_r4 : List Cond := [Cond.fieldLink RX1 27 "HostKeyring$Line" "end" "I", Cond.methodLink RX4 215 yX4_kindOf, Cond.static yX4_kindOf, Cond.code yX4_kindOf cX4_kindOf 1 (some .int), Cond.methodLink RX4 142 yX4_turnLines, Cond.instanceMethod yX4_turnLines, Cond.selects RX4 yX4_turnLines yX4_turnLines, Cond.code yX4_turnLines cX4_turnLines 9 (some .int), Cond.methodLink RX4 43 yX4_appendLine, Cond.instanceMethod yX4_appendLine, Cond.selects RX4 yX4_appendLine yX4_appendLine, Cond.code yX4_appendLine cX4_appendLine 4 (some (.object "HostKeyring$Line")), Cond.methodLink RX4 179 yX1_begin, Cond.instanceMethod yX1_begin, Cond.selects RX1 yX1_begin yX1_begin, Cond.code yX1_begin cX1_begin 4 none, Cond.fieldLink RX1 17 "HostKeyring$Line" "mark" "I", Cond.fieldLink RX1 24 "HostKeyring$Line" "seen" "I", Cond.methodLink RX4 186 yX1_takeMatching, Cond.instanceMethod yX1_takeMatching, Cond.selects RX1 yX1_takeMatching yX1_takeMatching, Cond.code yX1_takeMatching cX1_takeMatching 3 none, Cond.methodLink RX4 190 yX1_endBy, Cond.instanceMethod yX1_endBy]
def wsL_turn_r5 : List Cond := [Cond.selects RX1 yX1_endBy yX1_endBy, Cond.code yX1_endBy cX1_endBy 2 none]
def wsL_turn : List Cond := .codeWith yL_turn cL_turn 8 (some .int) [(0, 16, 19, 13), (0, 16, 23, 15)] :: ((wsL_turn_r1 ++ (wsL_turn_r2 ++ (wsL_turn_r3 ++ (wsL_turn_r4 ++ wsL_turn_r5)))) ++ wsX40 ++ wsX10 ++ wsX20 ++ (vx_atS RX4 133 "java/lang/IllegalArgumentException" ["java/lang/RuntimeException", "java/lang/Exception"]).filter goodWord ++ (vx_atS RX4 78 "java/lang/IllegalStateException" ["java/lang/RuntimeException", "java/lang/Exception"]).filter goodWord)
def wsL_pass : List Cond := .codeWith yL_pass cL_pass 4 (some .int) [(0, 9, 12, 13), (0, 9, 15, 15)] :: ([.classLink RL 13 "java/lang/IllegalArgumentException", .classLink RL 15 "java/lang/IllegalStateException", .methodLink RL 54 yX4_pass, .instanceMethod yX4_pass, .selects RX4 yX4_pass yX4_pass, .initialized RX4, .code yX4_pass cX4_pass 2 (some .int), .classLink RX4 74 "java/lang/IllegalStateException", .initialized "java/lang/IllegalStateException", .fieldLink RX4 146 "HostKeyring" "day" "I", .methodLink RX4 35 yX4_requireWithin, .static yX4_requireWithin, .code yX4_requireWithin cX4_requireWithin 3 none, .classLink RX4 129 "java/lang/IllegalArgumentException", .initialized "java/lang/IllegalArgumentException"] ++ wsX40 ++ (vx_atS RX4 78 "java/lang/IllegalStateException" ["java/lang/RuntimeException", "java/lang/Exception"]).filter goodWord ++ (vx_atS RX4 133 "java/lang/IllegalArgumentException" ["java/lang/RuntimeException", "java/lang/Exception"]).filter goodWord)
def wsL_clean_r1 : List Cond := [Cond.classLink RL 13 "java/lang/IllegalArgumentException", Cond.methodLink RL 57 yX4_clean, Cond.instanceMethod yX4_clean, Cond.selects RX4 yX4_clean yX4_clean, Cond.initialized RX4, Cond.code yX4_clean cX4_clean 4 (some .int), Cond.fieldLink RX4 47 "HostKeyring" "lineCount" "I", Cond.fieldLink RX4 11 "HostKeyring" "book" "[LHostKeyring$Line;", Cond.methodLink RX4 35 yX4_requireWithin, Cond.static yX4_requireWithin, Cond.code yX4_requireWithin cX4_requireWithin 3 none, Cond.classLink RX4 129 "java/lang/IllegalArgumentException", Cond.initialized "java/lang/IllegalArgumentException", Cond.methodLink RX4 151 yX4_isToBeCleaned, Cond.instanceMethod yX4_isToBeCleaned, Cond.selects RX4 yX4_isToBeCleaned yX4_isToBeCleaned, Cond.code yX4_isToBeCleaned cX4_isToBeCleaned 3 (some .boolean), Cond.fieldLink RX4 146 "HostKeyring" "day" "I", Cond.methodLink RX4 193 yX1_hasEnded, Cond.instanceMethod yX1_hasEnded, Cond.selects RX1 yX1_hasEnded yX1_hasEnded, Cond.initialized RX1, Cond.code yX1_hasEnded cX1_hasEnded 2 (some .boolean), Cond.fieldLink RX1 27 "HostKeyring$Line" "end" "I"]
def wsL_clean_r2 : List Cond := [Cond.methodLink RX4 68 yX4_takeOut, Cond.instanceMethod yX4_takeOut, Cond.selects RX4 yX4_takeOut yX4_takeOut, Cond.code yX4_takeOut cX4_takeOut 4 none]
def wsL_clean : List Cond := .codeWith yL_clean cL_clean 4 (some .int) [(0, 9, 12, 13)] :: ((wsL_clean_r1 ++ wsL_clean_r2) ++ wsX40 ++ wsX10 ++ (vx_atS RX4 133 "java/lang/IllegalArgumentException" ["java/lang/RuntimeException", "java/lang/Exception"]).filter goodWord)
def wsL_judge_r1 : List Cond := [Cond.classLink RL 21 "java/lang/IndexOutOfBoundsException", Cond.classLink RL 13 "java/lang/IllegalArgumentException", Cond.methodLink RL 60 yX4_judge, Cond.instanceMethod yX4_judge, Cond.selects RX4 yX4_judge yX4_judge, Cond.initialized RX4, Cond.code yX4_judge cX4_judge 6 (some .int), Cond.methodLink RX4 99 yX4_certificateAt, Cond.instanceMethod yX4_certificateAt, Cond.selects RX4 yX4_certificateAt yX4_certificateAt, Cond.code yX4_certificateAt cX4_certificateAt 2 (some (.object "HostKeyring$Certificate")), Cond.classLink RX4 170 "java/lang/IndexOutOfBoundsException", Cond.initialized "java/lang/IndexOutOfBoundsException", Cond.fieldLink RX4 71 "HostKeyring" "certificateCount" "I", Cond.fieldLink RX4 17 "HostKeyring" "certificates" "[LHostKeyring$Certificate;", Cond.methodLink RX4 54 yX4_requireNameAndPort, Cond.static yX4_requireNameAndPort, Cond.code yX4_requireNameAndPort cX4_requireNameAndPort 2 none, Cond.methodLink RX4 35 yX4_requireWithin, Cond.static yX4_requireWithin, Cond.code yX4_requireWithin cX4_requireWithin 3 none, Cond.classLink RX4 129 "java/lang/IllegalArgumentException", Cond.initialized "java/lang/IllegalArgumentException", Cond.methodLink RX4 39 yX4_requireKey]
def wsL_judge_r2 : List Cond := [Cond.static yX4_requireKey, Cond.code yX4_requireKey cX4_requireKey 1 none, Cond.methodLink RX4 103 yX4_judgementOf, Cond.instanceMethod yX4_judgementOf, Cond.selects RX4 yX4_judgementOf yX4_judgementOf, Cond.code yX4_judgementOf cX4_judgementOf 6 (some .int), Cond.methodLink RX4 107 yX4_authorityOf, Cond.static yX4_authorityOf, Cond.code yX4_authorityOf cX4_authorityOf 1 (some .int), Cond.methodLink RX4 134 yX4_judgementByLines, Cond.instanceMethod yX4_judgementByLines, Cond.selects RX4 yX4_judgementByLines yX4_judgementByLines, Cond.code yX4_judgementByLines cX4_judgementByLines 7 (some .int), Cond.fieldLink RX4 47 "HostKeyring" "lineCount" "I", Cond.fieldLink RX4 11 "HostKeyring" "book" "[LHostKeyring$Line;", Cond.methodLink RX4 209 Lib.Math.min.name, Cond.static Lib.Math.min.name, Cond.initialized "java/lang/Math", Cond.code Lib.Math.min.name Lib.Math.min.code 2 (some .int), Cond.methodLink RX4 164 yX1_covers, Cond.instanceMethod yX1_covers, Cond.selects RX1 yX1_covers yX1_covers, Cond.initialized RX1, Cond.code yX1_covers cX1_covers 6 (some .boolean)]
def wsL_judge_r3 : List Cond := [Cond.fieldLink RX1 33 "HostKeyring$Line" "isHashed" "Z", Cond.fieldLink RX1 57 "HostKeyring$Line" "hashPort" "I", Cond.fieldLink RX1 54 "HostKeyring$Line" "hashSalt" "I", Cond.fieldLink RX1 51 "HostKeyring$Line" "hash" "I", Cond.fieldLink RX1 30 "HostKeyring$Line" "patternCount" "I", Cond.fieldLink RX1 11 "HostKeyring$Line" "patterns" "[LHostKeyring$Pattern;", Cond.methodLink RX1 47 yX1_hashOf, Cond.static yX1_hashOf, Cond.code yX1_hashOf cX1_hashOf 2 (some .int), Cond.methodLink RX1 60 yX2_fits, Cond.instanceMethod yX2_fits, Cond.selects RX2 yX2_fits yX2_fits, Cond.initialized RX2, Cond.code yX2_fits cX2_fits 3 (some .boolean), Cond.fieldLink RX2 16 "HostKeyring$Pattern" "port" "I", Cond.fieldLink RX2 13 "HostKeyring$Pattern" "places" "I", Cond.fieldLink RX2 7 "HostKeyring$Pattern" "name" "I", Cond.static yX4_isSameAt, Cond.code yX4_isSameAt cX4_isSameAt 7 (some .boolean), Cond.methodLink RX4 205 yX4_judgementByMatch, Cond.instanceMethod yX4_judgementByMatch, Cond.selects RX4 yX4_judgementByMatch yX4_judgementByMatch, Cond.code yX4_judgementByMatch cX4_judgementByMatch 4 (some .int), Cond.methodLink RX4 197 yX1_hasEither]
def wsL_judge_r4 : List Cond := [Cond.instanceMethod yX1_hasEither, Cond.selects RX1 yX1_hasEither yX1_hasEither, Cond.code yX1_hasEither cX1_hasEither 3 (some .boolean), Cond.fieldLink RX1 21 "HostKeyring$Line" "key" "I", Cond.methodLink RX4 182 yX4_isLivePlain, Cond.instanceMethod yX4_isLivePlain, Cond.selects RX4 yX4_isLivePlain yX4_isLivePlain, Cond.code yX4_isLivePlain cX4_isLivePlain 2 (some .boolean), Cond.fieldLink RX4 146 "HostKeyring" "day" "I", Cond.methodLink RX4 193 yX1_hasEnded, Cond.instanceMethod yX1_hasEnded, Cond.selects RX1 yX1_hasEnded yX1_hasEnded, Cond.code yX1_hasEnded cX1_hasEnded 2 (some .boolean), Cond.fieldLink RX1 27 "HostKeyring$Line" "end" "I", Cond.methodLink RX4 215 yX4_kindOf, Cond.static yX4_kindOf, Cond.code yX4_kindOf cX4_kindOf 1 (some .int), Cond.methodLink RX4 201 yX4_isGood, Cond.instanceMethod yX4_isGood, Cond.selects RX4 yX4_isGood yX4_isGood, Cond.code yX4_isGood cX4_isGood 4 (some .boolean), Cond.methodLink RX4 228 yX4_isSameAt, Cond.methodLink RX4 238 yX4_isInRevokedSpan, Cond.instanceMethod yX4_isInRevokedSpan]
def wsL_judge_r5 : List Cond := [Cond.selects RX4 yX4_isInRevokedSpan yX4_isInRevokedSpan, Cond.code yX4_isInRevokedSpan cX4_isInRevokedSpan 3 (some .boolean), Cond.fieldLink RX4 84 "HostKeyring" "spanCount" "I", Cond.fieldLink RX4 23 "HostKeyring" "spans" "[LHostKeyring$Span;", Cond.methodLink RX4 248 yX3_holds, Cond.instanceMethod yX3_holds, Cond.selects RX3 yX3_holds yX3_holds, Cond.initialized RX3, Cond.code yX3_holds cX3_holds 3 (some .boolean), Cond.fieldLink RX3 7 "HostKeyring$Span" "authority" "I", Cond.fieldLink RX3 13 "HostKeyring$Span" "from" "I", Cond.fieldLink RX3 16 "HostKeyring$Span" "to" "I", Cond.methodLink RX4 242 yX4_hasAuthority, Cond.instanceMethod yX4_hasAuthority, Cond.selects RX4 yX4_hasAuthority yX4_hasAuthority, Cond.code yX4_hasAuthority cX4_hasAuthority 6 (some .boolean)]
def wsL_judge : List Cond := .codeWith yL_judge cL_judge 7 (some .int) [(0, 14, 17, 21), (0, 14, 21, 13)] :: ((wsL_judge_r1 ++ (wsL_judge_r2 ++ (wsL_judge_r3 ++ (wsL_judge_r4 ++ wsL_judge_r5)))) ++ wsX40 ++ wsX00 ++ wsX10 ++ wsX20 ++ wsX30 ++ (vx_atS RX4 174 "java/lang/IndexOutOfBoundsException" ["java/lang/RuntimeException", "java/lang/Exception"]).filter goodWord ++ (vx_atS RX4 133 "java/lang/IllegalArgumentException" ["java/lang/RuntimeException", "java/lang/Exception"]).filter goodWord)
def wsL_judgeByReading_r1 : List Cond := [Cond.classLink RL 13 "java/lang/IllegalArgumentException", Cond.methodLink RL 63 yX4_judgeByReading, Cond.instanceMethod yX4_judgeByReading, Cond.selects RX4 yX4_judgeByReading yX4_judgeByReading, Cond.initialized RX4, Cond.code yX4_judgeByReading cX4_judgeByReading 4 (some .int), Cond.methodLink RX4 54 yX4_requireNameAndPort, Cond.static yX4_requireNameAndPort, Cond.code yX4_requireNameAndPort cX4_requireNameAndPort 2 none, Cond.methodLink RX4 35 yX4_requireWithin, Cond.static yX4_requireWithin, Cond.code yX4_requireWithin cX4_requireWithin 3 none, Cond.classLink RX4 129 "java/lang/IllegalArgumentException", Cond.initialized "java/lang/IllegalArgumentException", Cond.methodLink RX4 39 yX4_requireKey, Cond.static yX4_requireKey, Cond.code yX4_requireKey cX4_requireKey 1 none, Cond.methodLink RX4 134 yX4_judgementByLines, Cond.instanceMethod yX4_judgementByLines, Cond.selects RX4 yX4_judgementByLines yX4_judgementByLines, Cond.code yX4_judgementByLines cX4_judgementByLines 7 (some .int), Cond.fieldLink RX4 47 "HostKeyring" "lineCount" "I", Cond.fieldLink RX4 11 "HostKeyring" "book" "[LHostKeyring$Line;", Cond.methodLink RX4 209 Lib.Math.min.name]
def wsL_judgeByReading_r2 : List Cond := [Cond.static Lib.Math.min.name, Cond.initialized "java/lang/Math", Cond.code Lib.Math.min.name Lib.Math.min.code 2 (some .int), Cond.methodLink RX4 164 yX1_covers, Cond.instanceMethod yX1_covers, Cond.selects RX1 yX1_covers yX1_covers, Cond.initialized RX1, Cond.code yX1_covers cX1_covers 6 (some .boolean), Cond.fieldLink RX1 33 "HostKeyring$Line" "isHashed" "Z", Cond.fieldLink RX1 57 "HostKeyring$Line" "hashPort" "I", Cond.fieldLink RX1 54 "HostKeyring$Line" "hashSalt" "I", Cond.fieldLink RX1 51 "HostKeyring$Line" "hash" "I", Cond.fieldLink RX1 30 "HostKeyring$Line" "patternCount" "I", Cond.fieldLink RX1 11 "HostKeyring$Line" "patterns" "[LHostKeyring$Pattern;", Cond.methodLink RX1 47 yX1_hashOf, Cond.static yX1_hashOf, Cond.code yX1_hashOf cX1_hashOf 2 (some .int), Cond.methodLink RX1 60 yX2_fits, Cond.instanceMethod yX2_fits, Cond.selects RX2 yX2_fits yX2_fits, Cond.initialized RX2, Cond.code yX2_fits cX2_fits 3 (some .boolean), Cond.fieldLink RX2 16 "HostKeyring$Pattern" "port" "I", Cond.fieldLink RX2 13 "HostKeyring$Pattern" "places" "I"]
def wsL_judgeByReading_r3 : List Cond := [Cond.fieldLink RX2 7 "HostKeyring$Pattern" "name" "I", Cond.static yX4_isSameAt, Cond.code yX4_isSameAt cX4_isSameAt 7 (some .boolean), Cond.methodLink RX4 205 yX4_judgementByMatch, Cond.instanceMethod yX4_judgementByMatch, Cond.selects RX4 yX4_judgementByMatch yX4_judgementByMatch, Cond.code yX4_judgementByMatch cX4_judgementByMatch 4 (some .int), Cond.methodLink RX4 197 yX1_hasEither, Cond.instanceMethod yX1_hasEither, Cond.selects RX1 yX1_hasEither yX1_hasEither, Cond.code yX1_hasEither cX1_hasEither 3 (some .boolean), Cond.fieldLink RX1 21 "HostKeyring$Line" "key" "I", Cond.methodLink RX4 182 yX4_isLivePlain, Cond.instanceMethod yX4_isLivePlain, Cond.selects RX4 yX4_isLivePlain yX4_isLivePlain, Cond.code yX4_isLivePlain cX4_isLivePlain 2 (some .boolean), Cond.fieldLink RX4 146 "HostKeyring" "day" "I", Cond.methodLink RX4 193 yX1_hasEnded, Cond.instanceMethod yX1_hasEnded, Cond.selects RX1 yX1_hasEnded yX1_hasEnded, Cond.code yX1_hasEnded cX1_hasEnded 2 (some .boolean), Cond.fieldLink RX1 27 "HostKeyring$Line" "end" "I", Cond.methodLink RX4 215 yX4_kindOf, Cond.static yX4_kindOf]
def wsL_judgeByReading_r4 : List Cond := [Cond.code yX4_kindOf cX4_kindOf 1 (some .int)]
def wsL_judgeByReading : List Cond := .codeWith yL_judgeByReading cL_judgeByReading 6 (some .int) [(0, 12, 15, 13)] :: ((wsL_judgeByReading_r1 ++ (wsL_judgeByReading_r2 ++ (wsL_judgeByReading_r3 ++ wsL_judgeByReading_r4))) ++ wsX40 ++ wsX10 ++ wsX20 ++ (vx_atS RX4 133 "java/lang/IllegalArgumentException" ["java/lang/RuntimeException", "java/lang/Exception"]).filter goodWord)
def wsL_keyOf : List Cond := .codeWith yL_keyOf cL_keyOf 4 (some .int) [(0, 9, 12, 21)] :: ([.classLink RL 21 "java/lang/IndexOutOfBoundsException", .methodLink RL 66 yX4_keyOf, .instanceMethod yX4_keyOf, .selects RX4 yX4_keyOf yX4_keyOf, .initialized RX4, .code yX4_keyOf cX4_keyOf 3 (some .int), .methodLink RX4 50 yX4_lineAt, .instanceMethod yX4_lineAt, .selects RX4 yX4_lineAt yX4_lineAt, .code yX4_lineAt cX4_lineAt 2 (some (.object "HostKeyring$Line")), .classLink RX4 170 "java/lang/IndexOutOfBoundsException", .initialized "java/lang/IndexOutOfBoundsException", .fieldLink RX4 47 "HostKeyring" "lineCount" "I", .fieldLink RX4 11 "HostKeyring" "book" "[LHostKeyring$Line;"] ++ wsX10 ++ wsX40 ++ (vx_atS RX4 174 "java/lang/IndexOutOfBoundsException" ["java/lang/RuntimeException", "java/lang/Exception"]).filter goodWord)
def wsL_seen : List Cond := .codeWith yL_seen cL_seen 4 (some .int) [(0, 9, 12, 21)] :: ([.classLink RL 21 "java/lang/IndexOutOfBoundsException", .methodLink RL 69 yX4_seen, .instanceMethod yX4_seen, .selects RX4 yX4_seen yX4_seen, .initialized RX4, .code yX4_seen cX4_seen 2 (some .int), .methodLink RX4 50 yX4_lineAt, .instanceMethod yX4_lineAt, .selects RX4 yX4_lineAt yX4_lineAt, .code yX4_lineAt cX4_lineAt 2 (some (.object "HostKeyring$Line")), .classLink RX4 170 "java/lang/IndexOutOfBoundsException", .initialized "java/lang/IndexOutOfBoundsException", .fieldLink RX4 47 "HostKeyring" "lineCount" "I", .fieldLink RX4 11 "HostKeyring" "book" "[LHostKeyring$Line;"] ++ wsX10 ++ wsX40 ++ (vx_atS RX4 174 "java/lang/IndexOutOfBoundsException" ["java/lang/RuntimeException", "java/lang/Exception"]).filter goodWord)
def wsL_end : List Cond := .codeWith yL_end cL_end 4 (some .int) [(0, 9, 12, 21)] :: ([.classLink RL 21 "java/lang/IndexOutOfBoundsException", .methodLink RL 72 yX4_end, .instanceMethod yX4_end, .selects RX4 yX4_end yX4_end, .initialized RX4, .code yX4_end cX4_end 2 (some .int), .methodLink RX4 50 yX4_lineAt, .instanceMethod yX4_lineAt, .selects RX4 yX4_lineAt yX4_lineAt, .code yX4_lineAt cX4_lineAt 2 (some (.object "HostKeyring$Line")), .classLink RX4 170 "java/lang/IndexOutOfBoundsException", .initialized "java/lang/IndexOutOfBoundsException", .fieldLink RX4 47 "HostKeyring" "lineCount" "I", .fieldLink RX4 11 "HostKeyring" "book" "[LHostKeyring$Line;"] ++ wsX10 ++ wsX40 ++ (vx_atS RX4 174 "java/lang/IndexOutOfBoundsException" ["java/lang/RuntimeException", "java/lang/Exception"]).filter goodWord)
def wsL_matches_r1 : List Cond := [Cond.classLink RL 21 "java/lang/IndexOutOfBoundsException", Cond.classLink RL 13 "java/lang/IllegalArgumentException", Cond.methodLink RL 75 yX4_matches, Cond.instanceMethod yX4_matches, Cond.selects RX4 yX4_matches yX4_matches, Cond.initialized RX4, Cond.code yX4_matches cX4_matches 5 (some .boolean), Cond.methodLink RX4 50 yX4_lineAt, Cond.instanceMethod yX4_lineAt, Cond.selects RX4 yX4_lineAt yX4_lineAt, Cond.code yX4_lineAt cX4_lineAt 2 (some (.object "HostKeyring$Line")), Cond.classLink RX4 170 "java/lang/IndexOutOfBoundsException", Cond.initialized "java/lang/IndexOutOfBoundsException", Cond.fieldLink RX4 47 "HostKeyring" "lineCount" "I", Cond.fieldLink RX4 11 "HostKeyring" "book" "[LHostKeyring$Line;", Cond.methodLink RX4 54 yX4_requireNameAndPort, Cond.static yX4_requireNameAndPort, Cond.code yX4_requireNameAndPort cX4_requireNameAndPort 2 none, Cond.methodLink RX4 35 yX4_requireWithin, Cond.static yX4_requireWithin, Cond.code yX4_requireWithin cX4_requireWithin 3 none, Cond.classLink RX4 129 "java/lang/IllegalArgumentException", Cond.initialized "java/lang/IllegalArgumentException", Cond.methodLink RX4 164 yX1_covers]
def wsL_matches_r2 : List Cond := [Cond.instanceMethod yX1_covers, Cond.selects RX1 yX1_covers yX1_covers, Cond.initialized RX1, Cond.code yX1_covers cX1_covers 6 (some .boolean), Cond.fieldLink RX1 33 "HostKeyring$Line" "isHashed" "Z", Cond.fieldLink RX1 57 "HostKeyring$Line" "hashPort" "I", Cond.fieldLink RX1 54 "HostKeyring$Line" "hashSalt" "I", Cond.fieldLink RX1 51 "HostKeyring$Line" "hash" "I", Cond.fieldLink RX1 30 "HostKeyring$Line" "patternCount" "I", Cond.fieldLink RX1 11 "HostKeyring$Line" "patterns" "[LHostKeyring$Pattern;", Cond.methodLink RX1 47 yX1_hashOf, Cond.static yX1_hashOf, Cond.code yX1_hashOf cX1_hashOf 2 (some .int), Cond.methodLink RX1 60 yX2_fits, Cond.instanceMethod yX2_fits, Cond.selects RX2 yX2_fits yX2_fits, Cond.initialized RX2, Cond.code yX2_fits cX2_fits 3 (some .boolean), Cond.fieldLink RX2 16 "HostKeyring$Pattern" "port" "I", Cond.fieldLink RX2 13 "HostKeyring$Pattern" "places" "I", Cond.fieldLink RX2 7 "HostKeyring$Pattern" "name" "I", Cond.static yX4_isSameAt, Cond.code yX4_isSameAt cX4_isSameAt 7 (some .boolean)]
def wsL_matches : List Cond := .codeWith yL_matches cL_matches 6 (some .int) [(0, 19, 22, 21), (0, 19, 26, 13)] :: ((wsL_matches_r1 ++ wsL_matches_r2) ++ wsX40 ++ wsX10 ++ wsX20 ++ (vx_atS RX4 174 "java/lang/IndexOutOfBoundsException" ["java/lang/RuntimeException", "java/lang/Exception"]).filter goodWord ++ (vx_atS RX4 133 "java/lang/IllegalArgumentException" ["java/lang/RuntimeException", "java/lang/Exception"]).filter goodWord)
def wsL_find_r1 : List Cond := [Cond.classLink RL 13 "java/lang/IllegalArgumentException", Cond.methodLink RL 79 yX4_find, Cond.instanceMethod yX4_find, Cond.selects RX4 yX4_find yX4_find, Cond.initialized RX4, Cond.code yX4_find cX4_find 4 (some .int), Cond.fieldLink RX4 47 "HostKeyring" "lineCount" "I", Cond.fieldLink RX4 11 "HostKeyring" "book" "[LHostKeyring$Line;", Cond.methodLink RX4 54 yX4_requireNameAndPort, Cond.static yX4_requireNameAndPort, Cond.code yX4_requireNameAndPort cX4_requireNameAndPort 2 none, Cond.methodLink RX4 35 yX4_requireWithin, Cond.static yX4_requireWithin, Cond.code yX4_requireWithin cX4_requireWithin 3 none, Cond.classLink RX4 129 "java/lang/IllegalArgumentException", Cond.initialized "java/lang/IllegalArgumentException", Cond.methodLink RX4 164 yX1_covers, Cond.instanceMethod yX1_covers, Cond.selects RX1 yX1_covers yX1_covers, Cond.initialized RX1, Cond.code yX1_covers cX1_covers 6 (some .boolean), Cond.fieldLink RX1 33 "HostKeyring$Line" "isHashed" "Z", Cond.fieldLink RX1 57 "HostKeyring$Line" "hashPort" "I", Cond.fieldLink RX1 54 "HostKeyring$Line" "hashSalt" "I"]
def wsL_find_r2 : List Cond := [Cond.fieldLink RX1 51 "HostKeyring$Line" "hash" "I", Cond.fieldLink RX1 30 "HostKeyring$Line" "patternCount" "I", Cond.fieldLink RX1 11 "HostKeyring$Line" "patterns" "[LHostKeyring$Pattern;", Cond.methodLink RX1 47 yX1_hashOf, Cond.static yX1_hashOf, Cond.code yX1_hashOf cX1_hashOf 2 (some .int), Cond.methodLink RX1 60 yX2_fits, Cond.instanceMethod yX2_fits, Cond.selects RX2 yX2_fits yX2_fits, Cond.initialized RX2, Cond.code yX2_fits cX2_fits 3 (some .boolean), Cond.fieldLink RX2 16 "HostKeyring$Pattern" "port" "I", Cond.fieldLink RX2 13 "HostKeyring$Pattern" "places" "I", Cond.fieldLink RX2 7 "HostKeyring$Pattern" "name" "I", Cond.static yX4_isSameAt, Cond.code yX4_isSameAt cX4_isSameAt 7 (some .boolean)]
def wsL_find : List Cond := .codeWith yL_find cL_find 5 (some .int) [(0, 10, 13, 13)] :: ((wsL_find_r1 ++ wsL_find_r2) ++ wsX40 ++ wsX10 ++ wsX20 ++ (vx_atS RX4 133 "java/lang/IllegalArgumentException" ["java/lang/RuntimeException", "java/lang/Exception"]).filter goodWord)
def wsL_linesOf : List Cond := .codeWith yL_linesOf cL_linesOf 4 (some .int) [(0, 8, 11, 13)] :: ([.classLink RL 13 "java/lang/IllegalArgumentException", .methodLink RL 82 yX4_linesOf, .instanceMethod yX4_linesOf, .selects RX4 yX4_linesOf yX4_linesOf, .initialized RX4, .code yX4_linesOf cX4_linesOf 5 (some .long), .fieldLink RX4 47 "HostKeyring" "lineCount" "I", .fieldLink RX4 11 "HostKeyring" "book" "[LHostKeyring$Line;", .methodLink RX4 39 yX4_requireKey, .static yX4_requireKey, .code yX4_requireKey cX4_requireKey 1 none, .methodLink RX4 35 yX4_requireWithin, .static yX4_requireWithin, .code yX4_requireWithin cX4_requireWithin 3 none, .classLink RX4 129 "java/lang/IllegalArgumentException", .initialized "java/lang/IllegalArgumentException"] ++ wsX40 ++ wsX10 ++ (vx_atS RX4 133 "java/lang/IllegalArgumentException" ["java/lang/RuntimeException", "java/lang/Exception"]).filter goodWord)
def wsL_law0_r1 : List Cond := [Cond.classLink RL 8 RX4, Cond.instantiable RX4 12, Cond.initialized RX4, Cond.classLink RL 87 RX5, Cond.instantiable RX5 32, Cond.initialized RX5, Cond.arrayClass .long, Cond.methodLink RL 86 yX4_init, Cond.instanceMethod yX4_init, Cond.code yX4_init cX4_init 2 none, Cond.methodLink RX4 1 objectInit, Cond.instanceMethod objectInit, Cond.code objectInit ⟨#[0xb1]⟩ 1 none, Cond.classLink RX4 9 RX1, Cond.fieldLink RX4 11 "HostKeyring" "book" "[LHostKeyring$Line;", Cond.classLink RX4 15 RX0, Cond.fieldLink RX4 17 "HostKeyring" "certificates" "[LHostKeyring$Certificate;", Cond.classLink RX4 21 RX3, Cond.fieldLink RX4 23 "HostKeyring" "spans" "[LHostKeyring$Span;", Cond.fieldLink RX4 27 "HostKeyring" "firstSight" "I", Cond.fieldLink RX4 31 "HostKeyring" "waitingKey" "I", Cond.instantiable RX1 10, Cond.initialized RX1, Cond.instanceMethod yX1_init]
def wsL_law0_r2 : List Cond := [Cond.code yX1_init cX1_init 1 none, Cond.methodLink RX1 3 objectInit, Cond.classLink RX1 9 RX2, Cond.fieldLink RX1 11 "HostKeyring$Line" "patterns" "[LHostKeyring$Pattern;", Cond.methodLink RL 89 yX5_init, Cond.instanceMethod yX5_init, Cond.code yX5_init cX5_init 1 none, Cond.methodLink RX5 1 objectInit, Cond.fieldLink RX5 7 "HostKeyringModel" "rule" "I", Cond.arrayClass .int, Cond.fieldLink RX5 13 "HostKeyringModel" "keys" "[I", Cond.fieldLink RX5 17 "HostKeyringModel" "marks" "[I", Cond.fieldLink RX5 20 "HostKeyringModel" "seen" "[I", Cond.fieldLink RX5 23 "HostKeyringModel" "ends" "[I", Cond.fieldLink RX5 26 "HostKeyringModel" "salts" "[I", Cond.fieldLink RX5 29 "HostKeyringModel" "hashes" "[I", Cond.fieldLink RX5 32 "HostKeyringModel" "hashPorts" "[I", Cond.fieldLink RX5 35 "HostKeyringModel" "sizes" "[I", Cond.fieldLink RX5 38 "HostKeyringModel" "names" "[I", Cond.fieldLink RX5 41 "HostKeyringModel" "places" "[I", Cond.fieldLink RX5 44 "HostKeyringModel" "ports" "[I", Cond.arrayClass .boolean, Cond.fieldLink RX5 47 "HostKeyringModel" "denied" "[Z", Cond.fieldLink RX5 51 "HostKeyringModel" "authorities" "[I"]
def wsL_law0_r3 : List Cond := [Cond.fieldLink RX5 54 "HostKeyringModel" "certKeys" "[I", Cond.fieldLink RX5 57 "HostKeyringModel" "certNames" "[I", Cond.fieldLink RX5 60 "HostKeyringModel" "certPlaces" "[I", Cond.fieldLink RX5 63 "HostKeyringModel" "serials" "[I", Cond.fieldLink RX5 66 "HostKeyringModel" "firsts" "[I", Cond.fieldLink RX5 69 "HostKeyringModel" "lasts" "[I", Cond.fieldLink RX5 72 "HostKeyringModel" "spanOf" "[I", Cond.fieldLink RX5 75 "HostKeyringModel" "froms" "[I", Cond.fieldLink RX5 78 "HostKeyringModel" "tos" "[I", Cond.fieldLink RX5 81 "HostKeyringModel" "waitingKey" "I", Cond.methodLink RL 90 yL_addLine, Cond.static yL_addLine, Cond.initialized RL, Cond.codeWith yL_addLine cL_addLine 5 (some .int) [(0, 10, 13, 13), (0, 10, 17, 15)], Cond.classLink RL 13 "java/lang/IllegalArgumentException", Cond.classLink RL 15 "java/lang/IllegalStateException", Cond.methodLink RL 7 yX4_addLine, Cond.instanceMethod yX4_addLine, Cond.selects RX4 yX4_addLine yX4_addLine, Cond.code yX4_addLine cX4_addLine 3 (some .int), Cond.fieldLink RX4 47 "HostKeyring" "lineCount" "I", Cond.methodLink RX4 35 yX4_requireWithin, Cond.static yX4_requireWithin, Cond.code yX4_requireWithin cX4_requireWithin 3 none]
def wsL_law0_r4 : List Cond := [Cond.classLink RX4 129 "java/lang/IllegalArgumentException", Cond.initialized "java/lang/IllegalArgumentException", Cond.methodLink RX4 39 yX4_requireKey, Cond.static yX4_requireKey, Cond.code yX4_requireKey cX4_requireKey 1 none, Cond.methodLink RX4 43 yX4_appendLine, Cond.instanceMethod yX4_appendLine, Cond.selects RX4 yX4_appendLine yX4_appendLine, Cond.code yX4_appendLine cX4_appendLine 4 (some (.object "HostKeyring$Line")), Cond.classLink RX4 74 "java/lang/IllegalStateException", Cond.initialized "java/lang/IllegalStateException", Cond.fieldLink RX4 146 "HostKeyring" "day" "I", Cond.methodLink RX4 179 yX1_begin, Cond.instanceMethod yX1_begin, Cond.selects RX1 yX1_begin yX1_begin, Cond.code yX1_begin cX1_begin 4 none, Cond.fieldLink RX1 17 "HostKeyring$Line" "mark" "I", Cond.fieldLink RX1 21 "HostKeyring$Line" "key" "I", Cond.fieldLink RX1 24 "HostKeyring$Line" "seen" "I", Cond.fieldLink RX1 27 "HostKeyring$Line" "end" "I", Cond.fieldLink RX1 30 "HostKeyring$Line" "patternCount" "I", Cond.fieldLink RX1 33 "HostKeyring$Line" "isHashed" "Z", Cond.methodLink RL 95 yX5_addLine, Cond.instanceMethod yX5_addLine]
def wsL_law0_r5 : List Cond := [Cond.selects RX5 yX5_addLine yX5_addLine, Cond.code yX5_addLine cX5_addLine 3 (some .int), Cond.fieldLink RX5 91 "HostKeyringModel" "lines" "I", Cond.methodLink RX5 104 yX5_isMark, Cond.static yX5_isMark, Cond.code yX5_isMark cX5_isMark 1 (some .boolean), Cond.methodLink RX5 87 yX5_isIn, Cond.static yX5_isIn, Cond.code yX5_isIn cX5_isIn 3 (some .boolean), Cond.methodLink RX5 108 yX5_isKey, Cond.static yX5_isKey, Cond.code yX5_isKey cX5_isKey 1 (some .boolean), Cond.methodLink RX5 111 yX5_holds, Cond.instanceMethod yX5_holds, Cond.selects RX5 yX5_holds yX5_holds, Cond.code yX5_holds cX5_holds 2 (some .boolean), Cond.fieldLink RX5 84 "HostKeyringModel" "thrown" "I", Cond.methodLink RX5 114 yX5_adds, Cond.instanceMethod yX5_adds, Cond.selects RX5 yX5_adds yX5_adds, Cond.code yX5_adds cX5_adds 3 none, Cond.fieldLink RX5 101 "HostKeyringModel" "day" "I", Cond.methodLink RL 96 yX5_thrown, Cond.instanceMethod yX5_thrown]
def wsL_law0_r6 : List Cond := [Cond.selects RX5 yX5_thrown yX5_thrown, Cond.code yX5_thrown cX5_thrown 1 (some .int), Cond.methodLink RL 99 yL_addPattern, Cond.static yL_addPattern, Cond.codeWith yL_addPattern cL_addPattern 8 (some .int) [(0, 16, 19, 21), (0, 16, 23, 13), (0, 16, 27, 15)], Cond.classLink RL 21 "java/lang/IndexOutOfBoundsException", Cond.methodLink RL 17 yX4_addPattern, Cond.instanceMethod yX4_addPattern, Cond.selects RX4 yX4_addPattern yX4_addPattern, Cond.code yX4_addPattern cX4_addPattern 7 (some .int), Cond.methodLink RX4 50 yX4_lineAt, Cond.instanceMethod yX4_lineAt, Cond.selects RX4 yX4_lineAt yX4_lineAt, Cond.code yX4_lineAt cX4_lineAt 2 (some (.object "HostKeyring$Line")), Cond.classLink RX4 170 "java/lang/IndexOutOfBoundsException", Cond.initialized "java/lang/IndexOutOfBoundsException", Cond.methodLink RX4 54 yX4_requireNameAndPort, Cond.static yX4_requireNameAndPort, Cond.code yX4_requireNameAndPort cX4_requireNameAndPort 2 none, Cond.methodLink RX4 58 yX1_takePattern, Cond.instanceMethod yX1_takePattern, Cond.selects RX1 yX1_takePattern yX1_takePattern, Cond.code yX1_takePattern cX1_takePattern 5 (some .int), Cond.classLink RX1 37 "java/lang/IllegalStateException"]
def wsL_law0_r7 : List Cond := [Cond.instantiable RX2 4, Cond.initialized RX2, Cond.methodLink RX1 44 yX2_init, Cond.instanceMethod yX2_init, Cond.code yX2_init cX2_init 5 none, Cond.methodLink RX2 1 objectInit, Cond.fieldLink RX2 7 "HostKeyring$Pattern" "name" "I", Cond.fieldLink RX2 13 "HostKeyring$Pattern" "places" "I", Cond.fieldLink RX2 16 "HostKeyring$Pattern" "port" "I", Cond.fieldLink RX2 19 "HostKeyring$Pattern" "isDenied" "Z", Cond.methodLink RL 102 yX5_addPattern, Cond.instanceMethod yX5_addPattern, Cond.selects RX5 yX5_addPattern yX5_addPattern, Cond.code yX5_addPattern cX5_addPattern 8 (some .int), Cond.methodLink RX5 118 yX5_isLine, Cond.instanceMethod yX5_isLine, Cond.selects RX5 yX5_isLine yX5_isLine, Cond.code yX5_isLine cX5_isLine 2 (some .boolean), Cond.methodLink RX5 121 yX5_isName, Cond.static yX5_isName, Cond.code yX5_isName cX5_isName 1 (some .boolean), Cond.methodLink RX5 124 yX5_isPort, Cond.static yX5_isPort, Cond.code yX5_isPort cX5_isPort 1 (some .boolean)]
def wsL_law0_r8 : List Cond := [Cond.methodLink RX5 127 yX5_addsPattern, Cond.instanceMethod yX5_addsPattern, Cond.selects RX5 yX5_addsPattern yX5_addsPattern, Cond.code yX5_addsPattern cX5_addsPattern 7 none, Cond.methodLink RL 103 yL_addHashed, Cond.static yL_addHashed, Cond.codeWith yL_addHashed cL_addHashed 8 (some .int) [(0, 16, 19, 13), (0, 16, 23, 15)], Cond.methodLink RL 23 yX4_addHashed, Cond.instanceMethod yX4_addHashed, Cond.selects RX4 yX4_addHashed yX4_addHashed, Cond.code yX4_addHashed cX4_addHashed 6 (some .int), Cond.methodLink RX4 62 yX1_takeHash, Cond.instanceMethod yX1_takeHash, Cond.selects RX1 yX1_takeHash yX1_takeHash, Cond.code yX1_takeHash cX1_takeHash 4 none, Cond.fieldLink RX1 51 "HostKeyring$Line" "hash" "I", Cond.fieldLink RX1 54 "HostKeyring$Line" "hashSalt" "I", Cond.fieldLink RX1 57 "HostKeyring$Line" "hashPort" "I", Cond.methodLink RX1 47 yX1_hashOf, Cond.static yX1_hashOf, Cond.code yX1_hashOf cX1_hashOf 2 (some .int), Cond.methodLink RL 106 yX5_addHashed, Cond.instanceMethod yX5_addHashed, Cond.selects RX5 yX5_addHashed yX5_addHashed]
def wsL_law0_r9 : List Cond := [Cond.code yX5_addHashed cX5_addHashed 7 (some .int), Cond.methodLink RX5 131 yX5_addsHashed, Cond.instanceMethod yX5_addsHashed, Cond.selects RX5 yX5_addsHashed yX5_addsHashed, Cond.code yX5_addsHashed cX5_addsHashed 6 none, Cond.methodLink RX5 94 yX5_hash, Cond.static yX5_hash, Cond.code yX5_hash cX5_hash 2 (some .int), Cond.methodLink RL 107 yL_remove, Cond.static yL_remove, Cond.codeWith yL_remove cL_remove 4 (some .int) [(0, 9, 12, 21)], Cond.methodLink RL 27 yX4_remove, Cond.instanceMethod yX4_remove, Cond.selects RX4 yX4_remove yX4_remove, Cond.code yX4_remove cX4_remove 3 (some .int), Cond.methodLink RX4 68 yX4_takeOut, Cond.instanceMethod yX4_takeOut, Cond.selects RX4 yX4_takeOut yX4_takeOut, Cond.code yX4_takeOut cX4_takeOut 4 none, Cond.methodLink RL 110 yX5_remove, Cond.instanceMethod yX5_remove, Cond.selects RX5 yX5_remove yX5_remove, Cond.code yX5_remove cX5_remove 3 (some .int), Cond.methodLink RX5 138 yX5_removes]
def wsL_law0_r10 : List Cond := [Cond.instanceMethod yX5_removes, Cond.selects RX5 yX5_removes yX5_removes, Cond.code yX5_removes cX5_removes 3 none, Cond.methodLink RX5 135 yX5_becomesLike, Cond.instanceMethod yX5_becomesLike, Cond.selects RX5 yX5_becomesLike yX5_becomesLike, Cond.code yX5_becomesLike cX5_becomesLike 4 none, Cond.methodLink RL 111 yL_certify, Cond.static yL_certify, Cond.codeWith yL_certify cL_certify 10 (some .int) [(0, 20, 23, 13), (0, 20, 27, 15)], Cond.methodLink RL 31 yX4_certify, Cond.instanceMethod yX4_certify, Cond.selects RX4 yX4_certify yX4_certify, Cond.code yX4_certify cX4_certify 8 (some .int), Cond.fieldLink RX4 71 "HostKeyring" "certificateCount" "I", Cond.instantiable RX0 7, Cond.initialized RX0, Cond.methodLink RX4 81 yX0_init, Cond.instanceMethod yX0_init, Cond.code yX0_init cX0_init 8 none, Cond.methodLink RX0 1 objectInit, Cond.fieldLink RX0 7 "HostKeyring$Certificate" "authority" "I", Cond.fieldLink RX0 13 "HostKeyring$Certificate" "key" "I", Cond.fieldLink RX0 16 "HostKeyring$Certificate" "name" "I"]
def wsL_law0_r11 : List Cond := [Cond.fieldLink RX0 19 "HostKeyring$Certificate" "places" "I", Cond.fieldLink RX0 22 "HostKeyring$Certificate" "serial" "I", Cond.fieldLink RX0 25 "HostKeyring$Certificate" "first" "I", Cond.fieldLink RX0 28 "HostKeyring$Certificate" "last" "I", Cond.methodLink RL 114 yX5_certify, Cond.instanceMethod yX5_certify, Cond.selects RX5 yX5_certify yX5_certify, Cond.code yX5_certify cX5_certify 10 (some .int), Cond.fieldLink RX5 142 "HostKeyringModel" "certificates" "I", Cond.methodLink RL 115 yL_revokeSpan, Cond.static yL_revokeSpan, Cond.codeWith yL_revokeSpan cL_revokeSpan 6 (some .int) [(0, 12, 15, 13), (0, 12, 19, 15)], Cond.methodLink RL 35 yX4_revokeSpan, Cond.instanceMethod yX4_revokeSpan, Cond.selects RX4 yX4_revokeSpan yX4_revokeSpan, Cond.code yX4_revokeSpan cX4_revokeSpan 4 (some .int), Cond.fieldLink RX4 84 "HostKeyring" "spanCount" "I", Cond.instantiable RX3 3, Cond.initialized RX3, Cond.methodLink RX4 89 yX3_init, Cond.instanceMethod yX3_init, Cond.code yX3_init cX3_init 4 none, Cond.methodLink RX3 1 objectInit, Cond.fieldLink RX3 7 "HostKeyring$Span" "authority" "I"]
def wsL_law0_r12 : List Cond := [Cond.fieldLink RX3 13 "HostKeyring$Span" "from" "I", Cond.fieldLink RX3 16 "HostKeyring$Span" "to" "I", Cond.methodLink RX4 91 yX4_countRevokedCertificates, Cond.instanceMethod yX4_countRevokedCertificates, Cond.selects RX4 yX4_countRevokedCertificates yX4_countRevokedCertificates, Cond.code yX4_countRevokedCertificates cX4_countRevokedCertificates 3 (some .int), Cond.methodLink RX4 238 yX4_isInRevokedSpan, Cond.instanceMethod yX4_isInRevokedSpan, Cond.selects RX4 yX4_isInRevokedSpan yX4_isInRevokedSpan, Cond.code yX4_isInRevokedSpan cX4_isInRevokedSpan 3 (some .boolean), Cond.methodLink RX4 248 yX3_holds, Cond.instanceMethod yX3_holds, Cond.selects RX3 yX3_holds yX3_holds, Cond.code yX3_holds cX3_holds 3 (some .boolean), Cond.methodLink RL 118 yX5_revokeSpan, Cond.instanceMethod yX5_revokeSpan, Cond.selects RX5 yX5_revokeSpan yX5_revokeSpan, Cond.code yX5_revokeSpan cX5_revokeSpan 7 (some .int), Cond.fieldLink RX5 145 "HostKeyringModel" "spans" "I", Cond.methodLink RX5 148 yX5_isRevoked, Cond.instanceMethod yX5_isRevoked, Cond.selects RX5 yX5_isRevoked yX5_isRevoked, Cond.code yX5_isRevoked cX5_isRevoked 4 (some .boolean), Cond.methodLink RL 119 yL_setFirstSight]
def wsL_law0_r13 : List Cond := [Cond.static yL_setFirstSight, Cond.codeWith yL_setFirstSight cL_setFirstSight 5 (some .int) [(0, 10, 13, 13)], Cond.methodLink RL 39 yX4_setFirstSight, Cond.instanceMethod yX4_setFirstSight, Cond.selects RX4 yX4_setFirstSight yX4_setFirstSight, Cond.code yX4_setFirstSight cX4_setFirstSight 4 (some .int), Cond.fieldLink RX4 95 "HostKeyring" "isHashing" "Z", Cond.methodLink RL 122 yX5_setFirstSight, Cond.instanceMethod yX5_setFirstSight, Cond.selects RX5 yX5_setFirstSight yX5_setFirstSight, Cond.code yX5_setFirstSight cX5_setFirstSight 4 (some .int), Cond.fieldLink RX5 164 "HostKeyringModel" "areHashed" "Z", Cond.methodLink RL 123 yL_answer, Cond.static yL_answer, Cond.codeWith yL_answer cL_answer 7 (some .int) [(0, 14, 17, 21), (0, 14, 21, 13)], Cond.methodLink RL 43 yX4_answer, Cond.instanceMethod yX4_answer, Cond.selects RX4 yX4_answer yX4_answer, Cond.code yX4_answer cX4_answer 7 (some .int), Cond.methodLink RX4 99 yX4_certificateAt, Cond.instanceMethod yX4_certificateAt, Cond.selects RX4 yX4_certificateAt yX4_certificateAt, Cond.code yX4_certificateAt cX4_certificateAt 2 (some (.object "HostKeyring$Certificate")), Cond.methodLink RX4 103 yX4_judgementOf]
def wsL_law0_r14 : List Cond := [Cond.instanceMethod yX4_judgementOf, Cond.selects RX4 yX4_judgementOf yX4_judgementOf, Cond.code yX4_judgementOf cX4_judgementOf 6 (some .int), Cond.methodLink RX4 107 yX4_authorityOf, Cond.static yX4_authorityOf, Cond.code yX4_authorityOf cX4_authorityOf 1 (some .int), Cond.methodLink RX4 134 yX4_judgementByLines, Cond.instanceMethod yX4_judgementByLines, Cond.selects RX4 yX4_judgementByLines yX4_judgementByLines, Cond.code yX4_judgementByLines cX4_judgementByLines 7 (some .int), Cond.methodLink RX4 209 Lib.Math.min.name, Cond.static Lib.Math.min.name, Cond.initialized "java/lang/Math", Cond.code Lib.Math.min.name Lib.Math.min.code 2 (some .int), Cond.methodLink RX4 164 yX1_covers, Cond.instanceMethod yX1_covers, Cond.selects RX1 yX1_covers yX1_covers, Cond.code yX1_covers cX1_covers 6 (some .boolean), Cond.methodLink RX1 60 yX2_fits, Cond.instanceMethod yX2_fits, Cond.selects RX2 yX2_fits yX2_fits, Cond.code yX2_fits cX2_fits 3 (some .boolean), Cond.static yX4_isSameAt, Cond.code yX4_isSameAt cX4_isSameAt 7 (some .boolean)]
def wsL_law0_r15 : List Cond := [Cond.methodLink RX4 205 yX4_judgementByMatch, Cond.instanceMethod yX4_judgementByMatch, Cond.selects RX4 yX4_judgementByMatch yX4_judgementByMatch, Cond.code yX4_judgementByMatch cX4_judgementByMatch 4 (some .int), Cond.methodLink RX4 197 yX1_hasEither, Cond.instanceMethod yX1_hasEither, Cond.selects RX1 yX1_hasEither yX1_hasEither, Cond.code yX1_hasEither cX1_hasEither 3 (some .boolean), Cond.methodLink RX4 182 yX4_isLivePlain, Cond.instanceMethod yX4_isLivePlain, Cond.selects RX4 yX4_isLivePlain yX4_isLivePlain, Cond.code yX4_isLivePlain cX4_isLivePlain 2 (some .boolean), Cond.methodLink RX4 193 yX1_hasEnded, Cond.instanceMethod yX1_hasEnded, Cond.selects RX1 yX1_hasEnded yX1_hasEnded, Cond.code yX1_hasEnded cX1_hasEnded 2 (some .boolean), Cond.methodLink RX4 215 yX4_kindOf, Cond.static yX4_kindOf, Cond.code yX4_kindOf cX4_kindOf 1 (some .int), Cond.methodLink RX4 201 yX4_isGood, Cond.instanceMethod yX4_isGood, Cond.selects RX4 yX4_isGood yX4_isGood, Cond.code yX4_isGood cX4_isGood 4 (some .boolean), Cond.methodLink RX4 228 yX4_isSameAt]
def wsL_law0_r16 : List Cond := [Cond.methodLink RX4 242 yX4_hasAuthority, Cond.instanceMethod yX4_hasAuthority, Cond.selects RX4 yX4_hasAuthority yX4_hasAuthority, Cond.code yX4_hasAuthority cX4_hasAuthority 6 (some .boolean), Cond.methodLink RX4 111 yX4_seeToday, Cond.instanceMethod yX4_seeToday, Cond.selects RX4 yX4_seeToday yX4_seeToday, Cond.code yX4_seeToday cX4_seeToday 7 none, Cond.methodLink RX4 115 yX4_letWait, Cond.instanceMethod yX4_letWait, Cond.selects RX4 yX4_letWait yX4_letWait, Cond.code yX4_letWait cX4_letWait 4 none, Cond.fieldLink RX4 123 "HostKeyring" "waitingName" "I", Cond.fieldLink RX4 126 "HostKeyring" "waitingPort" "I", Cond.methodLink RX4 118 yX4_appendSighted, Cond.instanceMethod yX4_appendSighted, Cond.selects RX4 yX4_appendSighted yX4_appendSighted, Cond.code yX4_appendSighted cX4_appendSighted 5 none, Cond.methodLink RL 126 yX5_answer, Cond.instanceMethod yX5_answer, Cond.selects RX5 yX5_answer yX5_answer, Cond.code yX5_answer cX5_answer 7 (some .int), Cond.fieldLink RX5 179 "HostKeyringModel" "waitingName" "I", Cond.fieldLink RX5 182 "HostKeyringModel" "waitingPort" "I"]
def wsL_law0_r17 : List Cond := [Cond.methodLink RX5 171 yX5_isJudged, Cond.instanceMethod yX5_isJudged, Cond.selects RX5 yX5_isJudged yX5_isJudged, Cond.code yX5_isJudged cX5_isJudged 5 (some .boolean), Cond.methodLink RX5 168 yX5_areAsked, Cond.static yX5_areAsked, Cond.code yX5_areAsked cX5_areAsked 3 (some .boolean), Cond.methodLink RX5 175 yX5_judgement, Cond.instanceMethod yX5_judgement, Cond.selects RX5 yX5_judgement yX5_judgement, Cond.code yX5_judgement cX5_judgement 9 (some .int), Cond.methodLink RX5 157 yX5_has, Cond.instanceMethod yX5_has, Cond.selects RX5 yX5_has yX5_has, Cond.code yX5_has cX5_has 8 (some .boolean), Cond.methodLink RX5 151 yX5_hasEnded, Cond.instanceMethod yX5_hasEnded, Cond.selects RX5 yX5_hasEnded yX5_hasEnded, Cond.code yX5_hasEnded cX5_hasEnded 2 (some .boolean), Cond.methodLink RX5 154 yX5_isFor, Cond.instanceMethod yX5_isFor, Cond.selects RX5 yX5_isFor yX5_isFor, Cond.code yX5_isFor cX5_isFor 8 (some .boolean), Cond.methodLink RX5 98 yX5_areLike]
def wsL_law0_r18 : List Cond := [Cond.static yX5_areLike, Cond.code yX5_areLike cX5_areLike 7 (some .boolean), Cond.methodLink RX5 161 yX5_isGood, Cond.instanceMethod yX5_isGood, Cond.selects RX5 yX5_isGood yX5_isGood, Cond.code yX5_isGood cX5_isGood 5 (some .boolean), Cond.methodLink RX5 185 yX5_sees, Cond.instanceMethod yX5_sees, Cond.selects RX5 yX5_sees yX5_sees, Cond.code yX5_sees cX5_sees 6 none, Cond.methodLink RX5 189 yX5_trusts, Cond.instanceMethod yX5_trusts, Cond.selects RX5 yX5_trusts yX5_trusts, Cond.code yX5_trusts cX5_trusts 4 none, Cond.methodLink RL 127 yL_confirm, Cond.static yL_confirm, Cond.codeWith yL_confirm cL_confirm 3 (some .int) [(0, 8, 11, 15)], Cond.methodLink RL 47 yX4_confirm, Cond.instanceMethod yX4_confirm, Cond.selects RX4 yX4_confirm yX4_confirm, Cond.code yX4_confirm cX4_confirm 1 (some .int), Cond.methodLink RL 130 yX5_confirm, Cond.instanceMethod yX5_confirm, Cond.selects RX5 yX5_confirm yX5_confirm]
def wsL_law0_r19 : List Cond := [Cond.code yX5_confirm cX5_confirm 1 (some .int), Cond.methodLink RL 131 yL_turn, Cond.static yL_turn, Cond.codeWith yL_turn cL_turn 8 (some .int) [(0, 16, 19, 13), (0, 16, 23, 15)], Cond.methodLink RL 51 yX4_turn, Cond.instanceMethod yX4_turn, Cond.selects RX4 yX4_turn yX4_turn, Cond.code yX4_turn cX4_turn 6 (some .int), Cond.methodLink RX4 142 yX4_turnLines, Cond.instanceMethod yX4_turnLines, Cond.selects RX4 yX4_turnLines yX4_turnLines, Cond.code yX4_turnLines cX4_turnLines 9 (some .int), Cond.methodLink RX4 186 yX1_takeMatching, Cond.instanceMethod yX1_takeMatching, Cond.selects RX1 yX1_takeMatching yX1_takeMatching, Cond.code yX1_takeMatching cX1_takeMatching 3 none, Cond.methodLink RX4 190 yX1_endBy, Cond.instanceMethod yX1_endBy, Cond.selects RX1 yX1_endBy yX1_endBy, Cond.code yX1_endBy cX1_endBy 2 none, Cond.methodLink RL 133 yX5_turn, Cond.instanceMethod yX5_turn, Cond.selects RX5 yX5_turn yX5_turn, Cond.code yX5_turn cX5_turn 10 (some .int)]
def wsL_law0_r20 : List Cond := [Cond.methodLink RL 134 yL_pass, Cond.static yL_pass, Cond.codeWith yL_pass cL_pass 4 (some .int) [(0, 9, 12, 13), (0, 9, 15, 15)], Cond.methodLink RL 54 yX4_pass, Cond.instanceMethod yX4_pass, Cond.selects RX4 yX4_pass yX4_pass, Cond.code yX4_pass cX4_pass 2 (some .int), Cond.methodLink RL 136 yX5_pass, Cond.instanceMethod yX5_pass, Cond.selects RX5 yX5_pass yX5_pass, Cond.code yX5_pass cX5_pass 2 (some .int), Cond.methodLink RL 137 yL_clean, Cond.static yL_clean, Cond.codeWith yL_clean cL_clean 4 (some .int) [(0, 9, 12, 13)], Cond.methodLink RL 57 yX4_clean, Cond.instanceMethod yX4_clean, Cond.selects RX4 yX4_clean yX4_clean, Cond.code yX4_clean cX4_clean 4 (some .int), Cond.methodLink RX4 151 yX4_isToBeCleaned, Cond.instanceMethod yX4_isToBeCleaned, Cond.selects RX4 yX4_isToBeCleaned yX4_isToBeCleaned, Cond.code yX4_isToBeCleaned cX4_isToBeCleaned 3 (some .boolean), Cond.methodLink RL 139 yX5_clean, Cond.instanceMethod yX5_clean]
def wsL_law0_r21 : List Cond := [Cond.selects RX5 yX5_clean yX5_clean, Cond.code yX5_clean cX5_clean 4 (some .int), Cond.methodLink RL 140 yL_judge, Cond.static yL_judge, Cond.codeWith yL_judge cL_judge 7 (some .int) [(0, 14, 17, 21), (0, 14, 21, 13)], Cond.methodLink RL 60 yX4_judge, Cond.instanceMethod yX4_judge, Cond.selects RX4 yX4_judge yX4_judge, Cond.code yX4_judge cX4_judge 6 (some .int), Cond.methodLink RL 142 yX5_judge, Cond.instanceMethod yX5_judge, Cond.selects RX5 yX5_judge yX5_judge, Cond.code yX5_judge cX5_judge 5 (some .int), Cond.methodLink RL 143 yL_judgeByReading, Cond.static yL_judgeByReading, Cond.codeWith yL_judgeByReading cL_judgeByReading 6 (some .int) [(0, 12, 15, 13)], Cond.methodLink RL 63 yX4_judgeByReading, Cond.instanceMethod yX4_judgeByReading, Cond.selects RX4 yX4_judgeByReading yX4_judgeByReading, Cond.code yX4_judgeByReading cX4_judgeByReading 4 (some .int), Cond.methodLink RL 145 yX5_judgeByReading, Cond.instanceMethod yX5_judgeByReading, Cond.selects RX5 yX5_judgeByReading yX5_judgeByReading, Cond.code yX5_judgeByReading cX5_judgeByReading 4 (some .int)]
def wsL_law0_r22 : List Cond := [Cond.methodLink RL 146 yX4_day, Cond.instanceMethod yX4_day, Cond.selects RX4 yX4_day yX4_day, Cond.code yX4_day cX4_day 1 (some .int), Cond.methodLink RL 149 yX5_day, Cond.instanceMethod yX5_day, Cond.selects RX5 yX5_day yX5_day, Cond.code yX5_day cX5_day 1 (some .int), Cond.methodLink RL 150 yX4_lines, Cond.instanceMethod yX4_lines, Cond.selects RX4 yX4_lines yX4_lines, Cond.code yX4_lines cX4_lines 1 (some .int), Cond.methodLink RL 153 yX5_lines, Cond.instanceMethod yX5_lines, Cond.selects RX5 yX5_lines yX5_lines, Cond.code yX5_lines cX5_lines 1 (some .int), Cond.methodLink RL 154 yL_keyOf, Cond.static yL_keyOf, Cond.codeWith yL_keyOf cL_keyOf 4 (some .int) [(0, 9, 12, 21)], Cond.methodLink RL 66 yX4_keyOf, Cond.instanceMethod yX4_keyOf, Cond.selects RX4 yX4_keyOf yX4_keyOf, Cond.code yX4_keyOf cX4_keyOf 3 (some .int), Cond.methodLink RL 156 yX5_keyOf]
def wsL_law0_r23 : List Cond := [Cond.instanceMethod yX5_keyOf, Cond.selects RX5 yX5_keyOf yX5_keyOf, Cond.code yX5_keyOf cX5_keyOf 2 (some .int), Cond.methodLink RL 157 yL_seen, Cond.static yL_seen, Cond.codeWith yL_seen cL_seen 4 (some .int) [(0, 9, 12, 21)], Cond.methodLink RL 69 yX4_seen, Cond.instanceMethod yX4_seen, Cond.selects RX4 yX4_seen yX4_seen, Cond.code yX4_seen cX4_seen 2 (some .int), Cond.methodLink RL 159 yX5_seen, Cond.instanceMethod yX5_seen, Cond.selects RX5 yX5_seen yX5_seen, Cond.code yX5_seen cX5_seen 2 (some .int), Cond.methodLink RL 160 yL_end, Cond.static yL_end, Cond.codeWith yL_end cL_end 4 (some .int) [(0, 9, 12, 21)], Cond.methodLink RL 72 yX4_end, Cond.instanceMethod yX4_end, Cond.selects RX4 yX4_end yX4_end, Cond.code yX4_end cX4_end 2 (some .int), Cond.methodLink RL 162 yX5_end, Cond.instanceMethod yX5_end, Cond.selects RX5 yX5_end yX5_end]
def wsL_law0_r24 : List Cond := [Cond.code yX5_end cX5_end 2 (some .int), Cond.methodLink RL 163 yL_matches, Cond.static yL_matches, Cond.codeWith yL_matches cL_matches 6 (some .int) [(0, 19, 22, 21), (0, 19, 26, 13)], Cond.methodLink RL 75 yX4_matches, Cond.instanceMethod yX4_matches, Cond.selects RX4 yX4_matches yX4_matches, Cond.code yX4_matches cX4_matches 5 (some .boolean), Cond.methodLink RL 165 yX5_matches, Cond.instanceMethod yX5_matches, Cond.selects RX5 yX5_matches yX5_matches, Cond.code yX5_matches cX5_matches 4 (some .boolean), Cond.methodLink RL 166 yL_find, Cond.static yL_find, Cond.codeWith yL_find cL_find 5 (some .int) [(0, 10, 13, 13)], Cond.methodLink RL 79 yX4_find, Cond.instanceMethod yX4_find, Cond.selects RX4 yX4_find yX4_find, Cond.code yX4_find cX4_find 4 (some .int), Cond.methodLink RL 168 yX5_find, Cond.instanceMethod yX5_find, Cond.selects RX5 yX5_find yX5_find, Cond.code yX5_find cX5_find 5 (some .int), Cond.methodLink RL 169 yL_linesOf]
def wsL_law0_r25 : List Cond := [Cond.static yL_linesOf, Cond.codeWith yL_linesOf cL_linesOf 4 (some .int) [(0, 8, 11, 13)], Cond.methodLink RL 82 yX4_linesOf, Cond.instanceMethod yX4_linesOf, Cond.selects RX4 yX4_linesOf yX4_linesOf, Cond.code yX4_linesOf cX4_linesOf 5 (some .long), Cond.methodLink RL 171 yX5_linesOf, Cond.instanceMethod yX5_linesOf, Cond.selects RX5 yX5_linesOf yX5_linesOf, Cond.code yX5_linesOf cX5_linesOf 5 (some .long), Cond.methodLink RL 172 yX4_waiting, Cond.instanceMethod yX4_waiting, Cond.selects RX4 yX4_waiting yX4_waiting, Cond.code yX4_waiting cX4_waiting 1 (some .int), Cond.methodLink RL 175 yX5_waiting, Cond.instanceMethod yX5_waiting, Cond.selects RX5 yX5_waiting yX5_waiting, Cond.code yX5_waiting cX5_waiting 1 (some .int)]
def wsL_law0 : List Cond := (wsL_law0_r1 ++ (wsL_law0_r2 ++ (wsL_law0_r3 ++ (wsL_law0_r4 ++ (wsL_law0_r5 ++ (wsL_law0_r6 ++ (wsL_law0_r7 ++ (wsL_law0_r8 ++ (wsL_law0_r9 ++ (wsL_law0_r10 ++ (wsL_law0_r11 ++ (wsL_law0_r12 ++ (wsL_law0_r13 ++ (wsL_law0_r14 ++ (wsL_law0_r15 ++ (wsL_law0_r16 ++ (wsL_law0_r17 ++ (wsL_law0_r18 ++ (wsL_law0_r19 ++ (wsL_law0_r20 ++ (wsL_law0_r21 ++ (wsL_law0_r22 ++ (wsL_law0_r23 ++ (wsL_law0_r24 ++ wsL_law0_r25)))))))))))))))))))))))) ++ wsX40 ++ wsX50 ++ wsX10 ++ wsX20 ++ wsX00 ++ wsX30 ++ ([] : List Cond)
def wsL_law : List Cond := wsL_law0 ++ (vx_atS RX4 133 "java/lang/IllegalArgumentException" ["java/lang/RuntimeException", "java/lang/Exception"]).filter goodWord ++ (vx_atS RX4 78 "java/lang/IllegalStateException" ["java/lang/RuntimeException", "java/lang/Exception"]).filter goodWord ++ (vx_atS RX4 174 "java/lang/IndexOutOfBoundsException" ["java/lang/RuntimeException", "java/lang/Exception"]).filter goodWord ++ (vx_atS RX1 41 "java/lang/IllegalStateException" ["java/lang/RuntimeException", "java/lang/Exception"]).filter goodWord
theorem inlX0 : ∀ w ∈ wsX00, w ∈ wsL_law := fun _ h => List.mem_append_left _ (List.mem_append_left _ (List.mem_append_left _ (List.mem_append_left _ (List.mem_append_left _ (List.mem_append_left _ (List.mem_append_right _ h))))))
theorem inlX1 : ∀ w ∈ wsX10, w ∈ wsL_law := fun _ h => List.mem_append_left _ (List.mem_append_left _ (List.mem_append_left _ (List.mem_append_left _ (List.mem_append_left _ (List.mem_append_left _ (List.mem_append_left _ (List.mem_append_left _ (List.mem_append_right _ h))))))))
theorem inlX2 : ∀ w ∈ wsX20, w ∈ wsL_law := fun _ h => List.mem_append_left _ (List.mem_append_left _ (List.mem_append_left _ (List.mem_append_left _ (List.mem_append_left _ (List.mem_append_left _ (List.mem_append_left _ (List.mem_append_right _ h)))))))
theorem inlX3 : ∀ w ∈ wsX30, w ∈ wsL_law := fun _ h => List.mem_append_left _ (List.mem_append_left _ (List.mem_append_left _ (List.mem_append_left _ (List.mem_append_left _ (List.mem_append_right _ h)))))
theorem inlX4 : ∀ w ∈ wsX40, w ∈ wsL_law := fun _ h => List.mem_append_left _ (List.mem_append_left _ (List.mem_append_left _ (List.mem_append_left _ (List.mem_append_left _ (List.mem_append_left _ (List.mem_append_left _ (List.mem_append_left _ (List.mem_append_left _ (List.mem_append_left _ (List.mem_append_right _ h))))))))))
theorem inlX5 : ∀ w ∈ wsX50, w ∈ wsL_law := fun _ h => List.mem_append_left _ (List.mem_append_left _ (List.mem_append_left _ (List.mem_append_left _ (List.mem_append_left _ (List.mem_append_left _ (List.mem_append_left _ (List.mem_append_left _ (List.mem_append_left _ (List.mem_append_right _ h)))))))))
theorem inJ9 : ∀ w ∈ wsJ90, w ∈ lw_tbl := by decide +kernel
theorem inJ0 : ∀ w ∈ wsJ00, w ∈ lw_tbl := by decide +kernel
abbrev vwCl : List vw_C := [(RX0, TX0, 7), (RX1, TX1, 10), (RX2, TX2, 4), (RX3, TX3, 3), (RX4, TX4, 12), (RX5, TX5, 32)]
end
section
theorem dX0_init_0 : decode cX0_init 0 = .ok (.aload_n 0, 1) := by decide +kernel
theorem dX0_init_1 : decode cX0_init 1 = .ok (.invokespecial 1, 3) := by decide +kernel
theorem dX0_init_4 : decode cX0_init 4 = .ok (.aload_n 0, 1) := by decide +kernel
theorem dX0_init_5 : decode cX0_init 5 = .ok (.iload_n 1, 1) := by decide +kernel
theorem dX0_init_6 : decode cX0_init 6 = .ok (.putfield 7, 3) := by decide +kernel
theorem dX0_init_9 : decode cX0_init 9 = .ok (.aload_n 0, 1) := by decide +kernel
theorem dX0_init_10 : decode cX0_init 10 = .ok (.iload_n 2, 1) := by decide +kernel
theorem dX0_init_11 : decode cX0_init 11 = .ok (.putfield 13, 3) := by decide +kernel
theorem dX0_init_14 : decode cX0_init 14 = .ok (.aload_n 0, 1) := by decide +kernel
theorem dX0_init_15 : decode cX0_init 15 = .ok (.iload_n 3, 1) := by decide +kernel
theorem dX0_init_16 : decode cX0_init 16 = .ok (.putfield 16, 3) := by decide +kernel
theorem dX0_init_19 : decode cX0_init 19 = .ok (.aload_n 0, 1) := by decide +kernel
theorem dX0_init_20 : decode cX0_init 20 = .ok (.iload 4, 2) := by decide +kernel
theorem dX0_init_22 : decode cX0_init 22 = .ok (.putfield 19, 3) := by decide +kernel
theorem dX0_init_25 : decode cX0_init 25 = .ok (.aload_n 0, 1) := by decide +kernel
theorem dX0_init_26 : decode cX0_init 26 = .ok (.iload 5, 2) := by decide +kernel
theorem dX0_init_28 : decode cX0_init 28 = .ok (.putfield 22, 3) := by decide +kernel
theorem dX0_init_31 : decode cX0_init 31 = .ok (.aload_n 0, 1) := by decide +kernel
theorem dX0_init_32 : decode cX0_init 32 = .ok (.iload 6, 2) := by decide +kernel
theorem dX0_init_34 : decode cX0_init 34 = .ok (.putfield 25, 3) := by decide +kernel
theorem dX0_init_37 : decode cX0_init 37 = .ok (.aload_n 0, 1) := by decide +kernel
theorem dX0_init_38 : decode cX0_init 38 = .ok (.iload 7, 2) := by decide +kernel
theorem dX0_init_40 : decode cX0_init 40 = .ok (.putfield 28, 3) := by decide +kernel
theorem dX0_init_43 : decode cX0_init 43 = .ok (.return_, 1) := by decide +kernel
theorem dX1_init_0 : decode cX1_init 0 = .ok (.aload_n 0, 1) := by decide +kernel
theorem dX1_init_1 : decode cX1_init 1 = .ok (.invokespecial 3, 3) := by decide +kernel
theorem dX1_init_4 : decode cX1_init 4 = .ok (.aload_n 0, 1) := by decide +kernel
theorem dX1_init_5 : decode cX1_init 5 = .ok (.iconst 4, 1) := by decide +kernel
theorem dX1_init_6 : decode cX1_init 6 = .ok (.anewarray 9, 3) := by decide +kernel
theorem dX1_init_9 : decode cX1_init 9 = .ok (.putfield 11, 3) := by decide +kernel
theorem dX1_init_12 : decode cX1_init 12 = .ok (.return_, 1) := by decide +kernel
theorem dX1_begin_0 : decode cX1_begin 0 = .ok (.aload_n 0, 1) := by decide +kernel
theorem dX1_begin_1 : decode cX1_begin 1 = .ok (.iload_n 1, 1) := by decide +kernel
theorem dX1_begin_2 : decode cX1_begin 2 = .ok (.putfield 17, 3) := by decide +kernel
theorem dX1_begin_5 : decode cX1_begin 5 = .ok (.aload_n 0, 1) := by decide +kernel
theorem dX1_begin_6 : decode cX1_begin 6 = .ok (.iload_n 2, 1) := by decide +kernel
theorem dX1_begin_7 : decode cX1_begin 7 = .ok (.putfield 21, 3) := by decide +kernel
theorem dX1_begin_10 : decode cX1_begin 10 = .ok (.aload_n 0, 1) := by decide +kernel
theorem dX1_begin_11 : decode cX1_begin 11 = .ok (.iload_n 3, 1) := by decide +kernel
theorem dX1_begin_12 : decode cX1_begin 12 = .ok (.putfield 24, 3) := by decide +kernel
theorem dX1_begin_15 : decode cX1_begin 15 = .ok (.aload_n 0, 1) := by decide +kernel
theorem dX1_begin_16 : decode cX1_begin 16 = .ok (.iconst (-1), 1) := by decide +kernel
theorem dX1_begin_17 : decode cX1_begin 17 = .ok (.putfield 27, 3) := by decide +kernel
theorem dX1_begin_20 : decode cX1_begin 20 = .ok (.aload_n 0, 1) := by decide +kernel
theorem dX1_begin_21 : decode cX1_begin 21 = .ok (.iconst 0, 1) := by decide +kernel
theorem dX1_begin_22 : decode cX1_begin 22 = .ok (.putfield 30, 3) := by decide +kernel
theorem dX1_begin_25 : decode cX1_begin 25 = .ok (.aload_n 0, 1) := by decide +kernel
theorem dX1_begin_26 : decode cX1_begin 26 = .ok (.iconst 0, 1) := by decide +kernel
theorem dX1_begin_27 : decode cX1_begin 27 = .ok (.putfield 33, 3) := by decide +kernel
theorem dX1_begin_30 : decode cX1_begin 30 = .ok (.return_, 1) := by decide +kernel
set_option maxRecDepth 20000 in
theorem ggX1_takePattern_X2_init : GoodIn wsX1_takePattern wsX2_init := goodIn_r _ [11, 12, 13, 14, 15, 16, 17, 18, 29, 30, 31, 32] (by decide +kernel) (by decide +kernel)
set_option maxRecDepth 20000 in
theorem gX1_takePattern_X2_init : GoodIn wsX1_takePattern (wsX2_init) := ggX1_takePattern_X2_init
theorem dX1_takePattern_0 : decode cX1_takePattern 0 = .ok (.aload_n 0, 1) := by decide +kernel
theorem dX1_takePattern_1 : decode cX1_takePattern 1 = .ok (.getfield 33, 3) := by decide +kernel
theorem dX1_takePattern_4 : decode cX1_takePattern 4 = .ok (.ifCond .ne 11, 3) := by decide +kernel
theorem dX1_takePattern_7 : decode cX1_takePattern 7 = .ok (.aload_n 0, 1) := by decide +kernel
theorem dX1_takePattern_8 : decode cX1_takePattern 8 = .ok (.getfield 30, 3) := by decide +kernel
theorem dX1_takePattern_11 : decode cX1_takePattern 11 = .ok (.iconst 4, 1) := by decide +kernel
theorem dX1_takePattern_12 : decode cX1_takePattern 12 = .ok (.if_icmp .lt 13, 3) := by decide +kernel
theorem dX1_takePattern_15 : decode cX1_takePattern 15 = .ok (.new 37, 3) := by decide +kernel
theorem dX1_takePattern_18 : decode cX1_takePattern 18 = .ok (.dup, 1) := by decide +kernel
theorem dX1_takePattern_19 : decode cX1_takePattern 19 = .ok (.ldc 39, 2) := by decide +kernel
theorem dX1_takePattern_21 : decode cX1_takePattern 21 = .ok (.invokespecial 41, 3) := by decide +kernel
theorem dX1_takePattern_24 : decode cX1_takePattern 24 = .ok (.athrow, 1) := by decide +kernel
theorem dX1_takePattern_25 : decode cX1_takePattern 25 = .ok (.aload_n 0, 1) := by decide +kernel
theorem dX1_takePattern_26 : decode cX1_takePattern 26 = .ok (.getfield 11, 3) := by decide +kernel
theorem dX1_takePattern_29 : decode cX1_takePattern 29 = .ok (.aload_n 0, 1) := by decide +kernel
theorem dX1_takePattern_30 : decode cX1_takePattern 30 = .ok (.getfield 30, 3) := by decide +kernel
theorem dX1_takePattern_33 : decode cX1_takePattern 33 = .ok (.new 9, 3) := by decide +kernel
theorem dX1_takePattern_36 : decode cX1_takePattern 36 = .ok (.dup, 1) := by decide +kernel
theorem dX1_takePattern_37 : decode cX1_takePattern 37 = .ok (.iload_n 1, 1) := by decide +kernel
theorem dX1_takePattern_38 : decode cX1_takePattern 38 = .ok (.iload_n 2, 1) := by decide +kernel
theorem dX1_takePattern_39 : decode cX1_takePattern 39 = .ok (.iload_n 3, 1) := by decide +kernel
theorem dX1_takePattern_40 : decode cX1_takePattern 40 = .ok (.iload 4, 2) := by decide +kernel
theorem dX1_takePattern_42 : decode cX1_takePattern 42 = .ok (.invokespecial 44, 3) := by decide +kernel
theorem dX1_takePattern_45 : decode cX1_takePattern 45 = .ok (.aastore, 1) := by decide +kernel
theorem dX1_takePattern_46 : decode cX1_takePattern 46 = .ok (.aload_n 0, 1) := by decide +kernel
theorem dX1_takePattern_47 : decode cX1_takePattern 47 = .ok (.dup, 1) := by decide +kernel
theorem dX1_takePattern_48 : decode cX1_takePattern 48 = .ok (.getfield 30, 3) := by decide +kernel
theorem dX1_takePattern_51 : decode cX1_takePattern 51 = .ok (.iconst 1, 1) := by decide +kernel
theorem dX1_takePattern_52 : decode cX1_takePattern 52 = .ok (.iadd, 1) := by decide +kernel
theorem dX1_takePattern_53 : decode cX1_takePattern 53 = .ok (.putfield 30, 3) := by decide +kernel
theorem dX1_takePattern_56 : decode cX1_takePattern 56 = .ok (.aload_n 0, 1) := by decide +kernel
theorem dX1_takePattern_57 : decode cX1_takePattern 57 = .ok (.getfield 30, 3) := by decide +kernel
theorem dX1_takePattern_60 : decode cX1_takePattern 60 = .ok (.ireturn, 1) := by decide +kernel
set_option maxRecDepth 20000 in
theorem ggX1_takeHash_X1_hashOf : GoodIn wsX1_takeHash wsX1_hashOf := goodIn_r _ [8] (by decide +kernel) (by decide +kernel)
set_option maxRecDepth 20000 in
theorem gX1_takeHash_X1_hashOf : GoodIn wsX1_takeHash (va_wsS RX1 47 yX1_hashOf wsX1_hashOf) := goodIn_app (goodIn_of _ (by decide +kernel)) ggX1_takeHash_X1_hashOf
theorem dX1_takeHash_0 : decode cX1_takeHash 0 = .ok (.aload_n 0, 1) := by decide +kernel
theorem dX1_takeHash_1 : decode cX1_takeHash 1 = .ok (.iconst 1, 1) := by decide +kernel
theorem dX1_takeHash_2 : decode cX1_takeHash 2 = .ok (.putfield 33, 3) := by decide +kernel
theorem dX1_takeHash_5 : decode cX1_takeHash 5 = .ok (.aload_n 0, 1) := by decide +kernel
theorem dX1_takeHash_6 : decode cX1_takeHash 6 = .ok (.iload_n 1, 1) := by decide +kernel
theorem dX1_takeHash_7 : decode cX1_takeHash 7 = .ok (.iload_n 3, 1) := by decide +kernel
theorem dX1_takeHash_8 : decode cX1_takeHash 8 = .ok (.invokestatic 47, 3) := by decide +kernel
theorem dX1_takeHash_11 : decode cX1_takeHash 11 = .ok (.putfield 51, 3) := by decide +kernel
theorem dX1_takeHash_14 : decode cX1_takeHash 14 = .ok (.aload_n 0, 1) := by decide +kernel
theorem dX1_takeHash_15 : decode cX1_takeHash 15 = .ok (.iload_n 3, 1) := by decide +kernel
theorem dX1_takeHash_16 : decode cX1_takeHash 16 = .ok (.putfield 54, 3) := by decide +kernel
theorem dX1_takeHash_19 : decode cX1_takeHash 19 = .ok (.aload_n 0, 1) := by decide +kernel
theorem dX1_takeHash_20 : decode cX1_takeHash 20 = .ok (.iload_n 2, 1) := by decide +kernel
theorem dX1_takeHash_21 : decode cX1_takeHash 21 = .ok (.putfield 57, 3) := by decide +kernel
theorem dX1_takeHash_24 : decode cX1_takeHash 24 = .ok (.return_, 1) := by decide +kernel
theorem dX1_takeMatching_0 : decode cX1_takeMatching 0 = .ok (.aload_n 0, 1) := by decide +kernel
theorem dX1_takeMatching_1 : decode cX1_takeMatching 1 = .ok (.aload_n 1, 1) := by decide +kernel
theorem dX1_takeMatching_2 : decode cX1_takeMatching 2 = .ok (.getfield 30, 3) := by decide +kernel
theorem dX1_takeMatching_5 : decode cX1_takeMatching 5 = .ok (.putfield 30, 3) := by decide +kernel
theorem dX1_takeMatching_8 : decode cX1_takeMatching 8 = .ok (.iconst 0, 1) := by decide +kernel
theorem dX1_takeMatching_9 : decode cX1_takeMatching 9 = .ok (.istore_n 2, 1) := by decide +kernel
theorem dX1_takeMatching_10 : decode cX1_takeMatching 10 = .ok (.iload_n 2, 1) := by decide +kernel
theorem dX1_takeMatching_11 : decode cX1_takeMatching 11 = .ok (.aload_n 0, 1) := by decide +kernel
theorem dX1_takeMatching_12 : decode cX1_takeMatching 12 = .ok (.getfield 30, 3) := by decide +kernel
theorem dX1_takeMatching_15 : decode cX1_takeMatching 15 = .ok (.if_icmp .ge 21, 3) := by decide +kernel
theorem dX1_takeMatching_18 : decode cX1_takeMatching 18 = .ok (.aload_n 0, 1) := by decide +kernel
theorem dX1_takeMatching_19 : decode cX1_takeMatching 19 = .ok (.getfield 11, 3) := by decide +kernel
theorem dX1_takeMatching_22 : decode cX1_takeMatching 22 = .ok (.iload_n 2, 1) := by decide +kernel
theorem dX1_takeMatching_23 : decode cX1_takeMatching 23 = .ok (.aload_n 1, 1) := by decide +kernel
theorem dX1_takeMatching_24 : decode cX1_takeMatching 24 = .ok (.getfield 11, 3) := by decide +kernel
theorem dX1_takeMatching_27 : decode cX1_takeMatching 27 = .ok (.iload_n 2, 1) := by decide +kernel
theorem dX1_takeMatching_28 : decode cX1_takeMatching 28 = .ok (.aaload, 1) := by decide +kernel
theorem dX1_takeMatching_29 : decode cX1_takeMatching 29 = .ok (.aastore, 1) := by decide +kernel
theorem dX1_takeMatching_30 : decode cX1_takeMatching 30 = .ok (.iinc 2 1, 3) := by decide +kernel
theorem dX1_takeMatching_33 : decode cX1_takeMatching 33 = .ok (.goto (-23), 3) := by decide +kernel
theorem dX1_takeMatching_36 : decode cX1_takeMatching 36 = .ok (.aload_n 0, 1) := by decide +kernel
theorem dX1_takeMatching_37 : decode cX1_takeMatching 37 = .ok (.aload_n 1, 1) := by decide +kernel
theorem dX1_takeMatching_38 : decode cX1_takeMatching 38 = .ok (.getfield 33, 3) := by decide +kernel
theorem dX1_takeMatching_41 : decode cX1_takeMatching 41 = .ok (.putfield 33, 3) := by decide +kernel
theorem dX1_takeMatching_44 : decode cX1_takeMatching 44 = .ok (.aload_n 0, 1) := by decide +kernel
theorem dX1_takeMatching_45 : decode cX1_takeMatching 45 = .ok (.aload_n 1, 1) := by decide +kernel
theorem dX1_takeMatching_46 : decode cX1_takeMatching 46 = .ok (.getfield 51, 3) := by decide +kernel
theorem dX1_takeMatching_49 : decode cX1_takeMatching 49 = .ok (.putfield 51, 3) := by decide +kernel
theorem dX1_takeMatching_52 : decode cX1_takeMatching 52 = .ok (.aload_n 0, 1) := by decide +kernel
theorem dX1_takeMatching_53 : decode cX1_takeMatching 53 = .ok (.aload_n 1, 1) := by decide +kernel
theorem dX1_takeMatching_54 : decode cX1_takeMatching 54 = .ok (.getfield 54, 3) := by decide +kernel
theorem dX1_takeMatching_57 : decode cX1_takeMatching 57 = .ok (.putfield 54, 3) := by decide +kernel
theorem dX1_takeMatching_60 : decode cX1_takeMatching 60 = .ok (.aload_n 0, 1) := by decide +kernel
theorem dX1_takeMatching_61 : decode cX1_takeMatching 61 = .ok (.aload_n 1, 1) := by decide +kernel
theorem dX1_takeMatching_62 : decode cX1_takeMatching 62 = .ok (.getfield 57, 3) := by decide +kernel
theorem dX1_takeMatching_65 : decode cX1_takeMatching 65 = .ok (.putfield 57, 3) := by decide +kernel
theorem dX1_takeMatching_68 : decode cX1_takeMatching 68 = .ok (.return_, 1) := by decide +kernel
theorem dX1_endBy_0 : decode cX1_endBy 0 = .ok (.aload_n 0, 1) := by decide +kernel
theorem dX1_endBy_1 : decode cX1_endBy 1 = .ok (.getfield 27, 3) := by decide +kernel
theorem dX1_endBy_4 : decode cX1_endBy 4 = .ok (.iconst (-1), 1) := by decide +kernel
theorem dX1_endBy_5 : decode cX1_endBy 5 = .ok (.if_icmp .eq 11, 3) := by decide +kernel
theorem dX1_endBy_8 : decode cX1_endBy 8 = .ok (.aload_n 0, 1) := by decide +kernel
theorem dX1_endBy_9 : decode cX1_endBy 9 = .ok (.getfield 27, 3) := by decide +kernel
theorem dX1_endBy_12 : decode cX1_endBy 12 = .ok (.iload_n 1, 1) := by decide +kernel
theorem dX1_endBy_13 : decode cX1_endBy 13 = .ok (.if_icmp .le 8, 3) := by decide +kernel
theorem dX1_endBy_16 : decode cX1_endBy 16 = .ok (.aload_n 0, 1) := by decide +kernel
theorem dX1_endBy_17 : decode cX1_endBy 17 = .ok (.iload_n 1, 1) := by decide +kernel
theorem dX1_endBy_18 : decode cX1_endBy 18 = .ok (.putfield 27, 3) := by decide +kernel
theorem dX1_endBy_21 : decode cX1_endBy 21 = .ok (.return_, 1) := by decide +kernel
theorem dX1_hasEnded_0 : decode cX1_hasEnded 0 = .ok (.aload_n 0, 1) := by decide +kernel
theorem dX1_hasEnded_1 : decode cX1_hasEnded 1 = .ok (.getfield 27, 3) := by decide +kernel
theorem dX1_hasEnded_4 : decode cX1_hasEnded 4 = .ok (.iconst (-1), 1) := by decide +kernel
theorem dX1_hasEnded_5 : decode cX1_hasEnded 5 = .ok (.if_icmp .eq 15, 3) := by decide +kernel
theorem dX1_hasEnded_8 : decode cX1_hasEnded 8 = .ok (.iload_n 1, 1) := by decide +kernel
theorem dX1_hasEnded_9 : decode cX1_hasEnded 9 = .ok (.aload_n 0, 1) := by decide +kernel
theorem dX1_hasEnded_10 : decode cX1_hasEnded 10 = .ok (.getfield 27, 3) := by decide +kernel
theorem dX1_hasEnded_13 : decode cX1_hasEnded 13 = .ok (.if_icmp .lt 7, 3) := by decide +kernel
theorem dX1_hasEnded_16 : decode cX1_hasEnded 16 = .ok (.iconst 1, 1) := by decide +kernel
theorem dX1_hasEnded_17 : decode cX1_hasEnded 17 = .ok (.goto 4, 3) := by decide +kernel
theorem dX1_hasEnded_20 : decode cX1_hasEnded 20 = .ok (.iconst 0, 1) := by decide +kernel
theorem dX1_hasEnded_21 : decode cX1_hasEnded 21 = .ok (.ireturn, 1) := by decide +kernel
theorem dX1_hasEither_0 : decode cX1_hasEither 0 = .ok (.aload_n 0, 1) := by decide +kernel
theorem dX1_hasEither_1 : decode cX1_hasEither 1 = .ok (.getfield 21, 3) := by decide +kernel
theorem dX1_hasEither_4 : decode cX1_hasEither 4 = .ok (.iload_n 1, 1) := by decide +kernel
theorem dX1_hasEither_5 : decode cX1_hasEither 5 = .ok (.if_icmp .eq 11, 3) := by decide +kernel
theorem dX1_hasEither_8 : decode cX1_hasEither 8 = .ok (.aload_n 0, 1) := by decide +kernel
theorem dX1_hasEither_9 : decode cX1_hasEither 9 = .ok (.getfield 21, 3) := by decide +kernel
theorem dX1_hasEither_12 : decode cX1_hasEither 12 = .ok (.iload_n 2, 1) := by decide +kernel
theorem dX1_hasEither_13 : decode cX1_hasEither 13 = .ok (.if_icmp .ne 7, 3) := by decide +kernel
theorem dX1_hasEither_16 : decode cX1_hasEither 16 = .ok (.iconst 1, 1) := by decide +kernel
theorem dX1_hasEither_17 : decode cX1_hasEither 17 = .ok (.goto 4, 3) := by decide +kernel
theorem dX1_hasEither_20 : decode cX1_hasEither 20 = .ok (.iconst 0, 1) := by decide +kernel
theorem dX1_hasEither_21 : decode cX1_hasEither 21 = .ok (.ireturn, 1) := by decide +kernel
set_option maxRecDepth 20000 in
theorem ggX1_covers_X1_hashOf : GoodIn wsX1_covers wsX1_hashOf := goodIn_r _ [10] (by decide +kernel) (by decide +kernel)
set_option maxRecDepth 20000 in
theorem gX1_covers_X1_hashOf : GoodIn wsX1_covers (va_wsS RX1 47 yX1_hashOf wsX1_hashOf) := goodIn_app (goodIn_of _ (by decide +kernel)) ggX1_covers_X1_hashOf
set_option maxRecDepth 20000 in
theorem ggX1_covers_X2_fits : GoodIn wsX1_covers wsX2_fits := goodIn_r _ [15, 16, 17, 18, 19, 20, 21, 32, 33, 34, 35] (by decide +kernel) (by decide +kernel)
set_option maxRecDepth 20000 in
theorem gX1_covers_X2_fits : GoodIn wsX1_covers (wsV RX1 60 RX2 yX2_fits wsX2_fits) := goodIn_app (goodIn_of _ (by decide +kernel)) ggX1_covers_X2_fits
theorem dX1_covers_0 : decode cX1_covers 0 = .ok (.aload_n 0, 1) := by decide +kernel
theorem dX1_covers_1 : decode cX1_covers 1 = .ok (.getfield 33, 3) := by decide +kernel
theorem dX1_covers_4 : decode cX1_covers 4 = .ok (.ifCond .eq 32, 3) := by decide +kernel
theorem dX1_covers_7 : decode cX1_covers 7 = .ok (.iload_n 2, 1) := by decide +kernel
theorem dX1_covers_8 : decode cX1_covers 8 = .ok (.aload_n 0, 1) := by decide +kernel
theorem dX1_covers_9 : decode cX1_covers 9 = .ok (.getfield 57, 3) := by decide +kernel
theorem dX1_covers_12 : decode cX1_covers 12 = .ok (.if_icmp .ne 22, 3) := by decide +kernel
theorem dX1_covers_15 : decode cX1_covers 15 = .ok (.iload_n 1, 1) := by decide +kernel
theorem dX1_covers_16 : decode cX1_covers 16 = .ok (.aload_n 0, 1) := by decide +kernel
theorem dX1_covers_17 : decode cX1_covers 17 = .ok (.getfield 54, 3) := by decide +kernel
theorem dX1_covers_20 : decode cX1_covers 20 = .ok (.invokestatic 47, 3) := by decide +kernel
theorem dX1_covers_23 : decode cX1_covers 23 = .ok (.aload_n 0, 1) := by decide +kernel
theorem dX1_covers_24 : decode cX1_covers 24 = .ok (.getfield 51, 3) := by decide +kernel
theorem dX1_covers_27 : decode cX1_covers 27 = .ok (.if_icmp .ne 7, 3) := by decide +kernel
theorem dX1_covers_30 : decode cX1_covers 30 = .ok (.iconst 1, 1) := by decide +kernel
theorem dX1_covers_31 : decode cX1_covers 31 = .ok (.goto 4, 3) := by decide +kernel
theorem dX1_covers_34 : decode cX1_covers 34 = .ok (.iconst 0, 1) := by decide +kernel
theorem dX1_covers_35 : decode cX1_covers 35 = .ok (.ireturn, 1) := by decide +kernel
theorem dX1_covers_36 : decode cX1_covers 36 = .ok (.iconst 0, 1) := by decide +kernel
theorem dX1_covers_37 : decode cX1_covers 37 = .ok (.istore_n 3, 1) := by decide +kernel
theorem dX1_covers_38 : decode cX1_covers 38 = .ok (.iconst 0, 1) := by decide +kernel
theorem dX1_covers_39 : decode cX1_covers 39 = .ok (.istore 4, 2) := by decide +kernel
theorem dX1_covers_41 : decode cX1_covers 41 = .ok (.iload 4, 2) := by decide +kernel
theorem dX1_covers_43 : decode cX1_covers 43 = .ok (.aload_n 0, 1) := by decide +kernel
theorem dX1_covers_44 : decode cX1_covers 44 = .ok (.getfield 30, 3) := by decide +kernel
theorem dX1_covers_47 : decode cX1_covers 47 = .ok (.if_icmp .ge 40, 3) := by decide +kernel
theorem dX1_covers_50 : decode cX1_covers 50 = .ok (.aload_n 0, 1) := by decide +kernel
theorem dX1_covers_51 : decode cX1_covers 51 = .ok (.getfield 11, 3) := by decide +kernel
theorem dX1_covers_54 : decode cX1_covers 54 = .ok (.iload 4, 2) := by decide +kernel
theorem dX1_covers_56 : decode cX1_covers 56 = .ok (.aaload, 1) := by decide +kernel
theorem dX1_covers_57 : decode cX1_covers 57 = .ok (.astore 5, 2) := by decide +kernel
theorem dX1_covers_59 : decode cX1_covers 59 = .ok (.aload 5, 2) := by decide +kernel
theorem dX1_covers_61 : decode cX1_covers 61 = .ok (.iload_n 1, 1) := by decide +kernel
theorem dX1_covers_62 : decode cX1_covers 62 = .ok (.iload_n 2, 1) := by decide +kernel
theorem dX1_covers_63 : decode cX1_covers 63 = .ok (.invokevirtual 60, 3) := by decide +kernel
theorem dX1_covers_66 : decode cX1_covers 66 = .ok (.ifCond .eq 15, 3) := by decide +kernel
theorem dX1_covers_69 : decode cX1_covers 69 = .ok (.aload 5, 2) := by decide +kernel
theorem dX1_covers_71 : decode cX1_covers 71 = .ok (.getfield 64, 3) := by decide +kernel
theorem dX1_covers_74 : decode cX1_covers 74 = .ok (.ifCond .eq 5, 3) := by decide +kernel
theorem dX1_covers_77 : decode cX1_covers 77 = .ok (.iconst 0, 1) := by decide +kernel
theorem dX1_covers_78 : decode cX1_covers 78 = .ok (.ireturn, 1) := by decide +kernel
theorem dX1_covers_79 : decode cX1_covers 79 = .ok (.iconst 1, 1) := by decide +kernel
theorem dX1_covers_80 : decode cX1_covers 80 = .ok (.istore_n 3, 1) := by decide +kernel
theorem dX1_covers_81 : decode cX1_covers 81 = .ok (.iinc 4 1, 3) := by decide +kernel
theorem dX1_covers_84 : decode cX1_covers 84 = .ok (.goto (-43), 3) := by decide +kernel
theorem dX1_covers_87 : decode cX1_covers 87 = .ok (.iload_n 3, 1) := by decide +kernel
theorem dX1_covers_88 : decode cX1_covers 88 = .ok (.ireturn, 1) := by decide +kernel
theorem dX1_hashOf_0 : decode cX1_hashOf 0 = .ok (.bipush 31, 2) := by decide +kernel
theorem dX1_hashOf_2 : decode cX1_hashOf 2 = .ok (.iload_n 0, 1) := by decide +kernel
theorem dX1_hashOf_3 : decode cX1_hashOf 3 = .ok (.imul, 1) := by decide +kernel
theorem dX1_hashOf_4 : decode cX1_hashOf 4 = .ok (.bipush 17, 2) := by decide +kernel
theorem dX1_hashOf_6 : decode cX1_hashOf 6 = .ok (.iload_n 1, 1) := by decide +kernel
theorem dX1_hashOf_7 : decode cX1_hashOf 7 = .ok (.imul, 1) := by decide +kernel
theorem dX1_hashOf_8 : decode cX1_hashOf 8 = .ok (.iadd, 1) := by decide +kernel
theorem dX1_hashOf_9 : decode cX1_hashOf 9 = .ok (.iconst 5, 1) := by decide +kernel
theorem dX1_hashOf_10 : decode cX1_hashOf 10 = .ok (.iadd, 1) := by decide +kernel
theorem dX1_hashOf_11 : decode cX1_hashOf 11 = .ok (.sipush 499, 3) := by decide +kernel
theorem dX1_hashOf_14 : decode cX1_hashOf 14 = .ok (.irem, 1) := by decide +kernel
theorem dX1_hashOf_15 : decode cX1_hashOf 15 = .ok (.ireturn, 1) := by decide +kernel
theorem dX2_init_0 : decode cX2_init 0 = .ok (.aload_n 0, 1) := by decide +kernel
theorem dX2_init_1 : decode cX2_init 1 = .ok (.invokespecial 1, 3) := by decide +kernel
theorem dX2_init_4 : decode cX2_init 4 = .ok (.aload_n 0, 1) := by decide +kernel
theorem dX2_init_5 : decode cX2_init 5 = .ok (.iload_n 1, 1) := by decide +kernel
theorem dX2_init_6 : decode cX2_init 6 = .ok (.putfield 7, 3) := by decide +kernel
theorem dX2_init_9 : decode cX2_init 9 = .ok (.aload_n 0, 1) := by decide +kernel
theorem dX2_init_10 : decode cX2_init 10 = .ok (.iload_n 2, 1) := by decide +kernel
theorem dX2_init_11 : decode cX2_init 11 = .ok (.putfield 13, 3) := by decide +kernel
theorem dX2_init_14 : decode cX2_init 14 = .ok (.aload_n 0, 1) := by decide +kernel
theorem dX2_init_15 : decode cX2_init 15 = .ok (.iload_n 3, 1) := by decide +kernel
theorem dX2_init_16 : decode cX2_init 16 = .ok (.putfield 16, 3) := by decide +kernel
theorem dX2_init_19 : decode cX2_init 19 = .ok (.aload_n 0, 1) := by decide +kernel
theorem dX2_init_20 : decode cX2_init 20 = .ok (.iload 4, 2) := by decide +kernel
theorem dX2_init_22 : decode cX2_init 22 = .ok (.putfield 19, 3) := by decide +kernel
theorem dX2_init_25 : decode cX2_init 25 = .ok (.return_, 1) := by decide +kernel
set_option maxRecDepth 20000 in
theorem ggX2_fits_X4_isSameAt : GoodIn wsX2_fits wsX4_isSameAt := goodIn_r _ [6] (by decide +kernel) (by decide +kernel)
set_option maxRecDepth 20000 in
theorem gX2_fits_X4_isSameAt_n23 : GoodIn wsX2_fits (wsX4_isSameAt) := ggX2_fits_X4_isSameAt
theorem dX2_fits_0 : decode cX2_fits 0 = .ok (.aload_n 0, 1) := by decide +kernel
theorem dX2_fits_1 : decode cX2_fits 1 = .ok (.getfield 16, 3) := by decide +kernel
theorem dX2_fits_4 : decode cX2_fits 4 = .ok (.iload_n 2, 1) := by decide +kernel
theorem dX2_fits_5 : decode cX2_fits 5 = .ok (.if_icmp .ne 22, 3) := by decide +kernel
theorem dX2_fits_8 : decode cX2_fits 8 = .ok (.aload_n 0, 1) := by decide +kernel
theorem dX2_fits_9 : decode cX2_fits 9 = .ok (.getfield 13, 3) := by decide +kernel
theorem dX2_fits_12 : decode cX2_fits 12 = .ok (.aload_n 0, 1) := by decide +kernel
theorem dX2_fits_13 : decode cX2_fits 13 = .ok (.getfield 7, 3) := by decide +kernel
theorem dX2_fits_16 : decode cX2_fits 16 = .ok (.iload_n 1, 1) := by decide +kernel
theorem dX2_fits_17 : decode cX2_fits 17 = .ok (.invokestatic 23, 3) := by decide +kernel
theorem dX2_fits_20 : decode cX2_fits 20 = .ok (.ifCond .eq 7, 3) := by decide +kernel
theorem dX2_fits_23 : decode cX2_fits 23 = .ok (.iconst 1, 1) := by decide +kernel
theorem dX2_fits_24 : decode cX2_fits 24 = .ok (.goto 4, 3) := by decide +kernel
theorem dX2_fits_27 : decode cX2_fits 27 = .ok (.iconst 0, 1) := by decide +kernel
theorem dX2_fits_28 : decode cX2_fits 28 = .ok (.ireturn, 1) := by decide +kernel
theorem dX3_init_0 : decode cX3_init 0 = .ok (.aload_n 0, 1) := by decide +kernel
theorem dX3_init_1 : decode cX3_init 1 = .ok (.invokespecial 1, 3) := by decide +kernel
theorem dX3_init_4 : decode cX3_init 4 = .ok (.aload_n 0, 1) := by decide +kernel
theorem dX3_init_5 : decode cX3_init 5 = .ok (.iload_n 1, 1) := by decide +kernel
theorem dX3_init_6 : decode cX3_init 6 = .ok (.putfield 7, 3) := by decide +kernel
theorem dX3_init_9 : decode cX3_init 9 = .ok (.aload_n 0, 1) := by decide +kernel
theorem dX3_init_10 : decode cX3_init 10 = .ok (.iload_n 2, 1) := by decide +kernel
theorem dX3_init_11 : decode cX3_init 11 = .ok (.putfield 13, 3) := by decide +kernel
theorem dX3_init_14 : decode cX3_init 14 = .ok (.aload_n 0, 1) := by decide +kernel
theorem dX3_init_15 : decode cX3_init 15 = .ok (.iload_n 3, 1) := by decide +kernel
theorem dX3_init_16 : decode cX3_init 16 = .ok (.putfield 16, 3) := by decide +kernel
theorem dX3_init_19 : decode cX3_init 19 = .ok (.return_, 1) := by decide +kernel
theorem dX3_holds_0 : decode cX3_holds 0 = .ok (.aload_n 0, 1) := by decide +kernel
theorem dX3_holds_1 : decode cX3_holds 1 = .ok (.getfield 7, 3) := by decide +kernel
theorem dX3_holds_4 : decode cX3_holds 4 = .ok (.iload_n 1, 1) := by decide +kernel
theorem dX3_holds_5 : decode cX3_holds 5 = .ok (.if_icmp .ne 23, 3) := by decide +kernel
theorem dX3_holds_8 : decode cX3_holds 8 = .ok (.iload_n 2, 1) := by decide +kernel
theorem dX3_holds_9 : decode cX3_holds 9 = .ok (.aload_n 0, 1) := by decide +kernel
theorem dX3_holds_10 : decode cX3_holds 10 = .ok (.getfield 13, 3) := by decide +kernel
theorem dX3_holds_13 : decode cX3_holds 13 = .ok (.if_icmp .lt 15, 3) := by decide +kernel
theorem dX3_holds_16 : decode cX3_holds 16 = .ok (.iload_n 2, 1) := by decide +kernel
theorem dX3_holds_17 : decode cX3_holds 17 = .ok (.aload_n 0, 1) := by decide +kernel
theorem dX3_holds_18 : decode cX3_holds 18 = .ok (.getfield 16, 3) := by decide +kernel
theorem dX3_holds_21 : decode cX3_holds 21 = .ok (.if_icmp .gt 7, 3) := by decide +kernel
theorem dX3_holds_24 : decode cX3_holds 24 = .ok (.iconst 1, 1) := by decide +kernel
theorem dX3_holds_25 : decode cX3_holds 25 = .ok (.goto 4, 3) := by decide +kernel
theorem dX3_holds_28 : decode cX3_holds 28 = .ok (.iconst 0, 1) := by decide +kernel
theorem dX3_holds_29 : decode cX3_holds 29 = .ok (.ireturn, 1) := by decide +kernel
end
section
set_option maxRecDepth 20000 in
theorem ggX4_init_X1_init : GoodIn wsX4_init wsX1_init := goodIn_r _ [15, 16, 2, 3, 17, 18, 31, 32, 33, 34, 35, 36, 37, 38, 39, 40] (by decide +kernel) (by decide +kernel)
set_option maxRecDepth 20000 in
theorem gX4_init_X1_init_n34 : GoodIn wsX4_init (wsX1_init) := ggX4_init_X1_init
theorem dX4_init_0 : decode cX4_init 0 = .ok (.aload_n 0, 1) := by decide +kernel
theorem dX4_init_1 : decode cX4_init 1 = .ok (.invokespecial 1, 3) := by decide +kernel
theorem dX4_init_4 : decode cX4_init 4 = .ok (.aload_n 0, 1) := by decide +kernel
theorem dX4_init_5 : decode cX4_init 5 = .ok (.bipush 40, 2) := by decide +kernel
theorem dX4_init_7 : decode cX4_init 7 = .ok (.anewarray 9, 3) := by decide +kernel
theorem dX4_init_10 : decode cX4_init 10 = .ok (.putfield 11, 3) := by decide +kernel
theorem dX4_init_13 : decode cX4_init 13 = .ok (.aload_n 0, 1) := by decide +kernel
theorem dX4_init_14 : decode cX4_init 14 = .ok (.bipush 20, 2) := by decide +kernel
theorem dX4_init_16 : decode cX4_init 16 = .ok (.anewarray 15, 3) := by decide +kernel
theorem dX4_init_19 : decode cX4_init 19 = .ok (.putfield 17, 3) := by decide +kernel
theorem dX4_init_22 : decode cX4_init 22 = .ok (.aload_n 0, 1) := by decide +kernel
theorem dX4_init_23 : decode cX4_init 23 = .ok (.bipush 20, 2) := by decide +kernel
theorem dX4_init_25 : decode cX4_init 25 = .ok (.anewarray 21, 3) := by decide +kernel
theorem dX4_init_28 : decode cX4_init 28 = .ok (.putfield 23, 3) := by decide +kernel
theorem dX4_init_31 : decode cX4_init 31 = .ok (.aload_n 0, 1) := by decide +kernel
theorem dX4_init_32 : decode cX4_init 32 = .ok (.iconst 1, 1) := by decide +kernel
theorem dX4_init_33 : decode cX4_init 33 = .ok (.putfield 27, 3) := by decide +kernel
theorem dX4_init_36 : decode cX4_init 36 = .ok (.aload_n 0, 1) := by decide +kernel
theorem dX4_init_37 : decode cX4_init 37 = .ok (.iconst (-1), 1) := by decide +kernel
theorem dX4_init_38 : decode cX4_init 38 = .ok (.putfield 31, 3) := by decide +kernel
theorem dX4_init_41 : decode cX4_init 41 = .ok (.iconst 0, 1) := by decide +kernel
theorem dX4_init_42 : decode cX4_init 42 = .ok (.istore_n 1, 1) := by decide +kernel
theorem dX4_init_43 : decode cX4_init 43 = .ok (.iload_n 1, 1) := by decide +kernel
theorem dX4_init_44 : decode cX4_init 44 = .ok (.bipush 40, 2) := by decide +kernel
theorem dX4_init_46 : decode cX4_init 46 = .ok (.if_icmp .ge 22, 3) := by decide +kernel
theorem dX4_init_49 : decode cX4_init 49 = .ok (.aload_n 0, 1) := by decide +kernel
theorem dX4_init_50 : decode cX4_init 50 = .ok (.getfield 11, 3) := by decide +kernel
theorem dX4_init_53 : decode cX4_init 53 = .ok (.iload_n 1, 1) := by decide +kernel
theorem dX4_init_54 : decode cX4_init 54 = .ok (.new 9, 3) := by decide +kernel
theorem dX4_init_57 : decode cX4_init 57 = .ok (.dup, 1) := by decide +kernel
theorem dX4_init_58 : decode cX4_init 58 = .ok (.invokespecial 34, 3) := by decide +kernel
theorem dX4_init_61 : decode cX4_init 61 = .ok (.aastore, 1) := by decide +kernel
theorem dX4_init_62 : decode cX4_init 62 = .ok (.iinc 1 1, 3) := by decide +kernel
theorem dX4_init_65 : decode cX4_init 65 = .ok (.goto (-22), 3) := by decide +kernel
theorem dX4_init_68 : decode cX4_init 68 = .ok (.return_, 1) := by decide +kernel
set_option maxRecDepth 20000 in
theorem ggX4_addLine_X4_requireWithin : GoodIn wsX4_addLine wsX4_requireWithin := goodIn_ca (goodIn_r _ [5, 6, 7] (by decide +kernel) (by decide +kernel)) (goodIn_sub (fun _ h => List.mem_cons_of_mem _ (List.mem_append_left _ (List.mem_append_right _ h))) (by decide +kernel))
set_option maxRecDepth 20000 in
theorem gX4_addLine_X4_requireWithin : GoodIn wsX4_addLine (va_wsS RX4 35 yX4_requireWithin wsX4_requireWithin) := goodIn_app (goodIn_of _ (by decide +kernel)) ggX4_addLine_X4_requireWithin
set_option maxRecDepth 20000 in
theorem ggX4_addLine_X4_requireKey : GoodIn wsX4_addLine wsX4_requireKey := goodIn_ca (goodIn_r _ [10, 2, 3, 4, 5, 6, 7] (by decide +kernel) (by decide +kernel)) (goodIn_sub (fun _ h => List.mem_cons_of_mem _ (List.mem_append_left _ (List.mem_append_right _ h))) (by decide +kernel))
set_option maxRecDepth 20000 in
theorem gX4_addLine_X4_requireKey : GoodIn wsX4_addLine (va_wsS RX4 39 yX4_requireKey wsX4_requireKey) := goodIn_app (goodIn_of _ (by decide +kernel)) ggX4_addLine_X4_requireKey
set_option maxRecDepth 20000 in
theorem ggX4_addLine_X4_appendLine : GoodIn wsX4_addLine wsX4_appendLine := goodIn_ca (goodIn_r _ [14, 15, 16, 1, 17, 18, 19, 20, 21, 22, 23, 24, 25, 26, 27, 28, 29, 30, 31, 32, 33, 34, 35, 36, 37, 38, 39, 40, 41, 42, 43, 44, 45, 46, 47, 48, 49, 50, 51] (by decide +kernel) (by decide +kernel)) (goodIn_sub (fun _ h => List.mem_cons_of_mem _ (List.mem_append_right _ h)) (by decide +kernel))
set_option maxRecDepth 20000 in
theorem gX4_addLine_X4_appendLine : GoodIn wsX4_addLine (wsV RX4 43 RX4 yX4_appendLine wsX4_appendLine) := goodIn_app (goodIn_of _ (by decide +kernel)) ggX4_addLine_X4_appendLine
theorem dX4_addLine_0 : decode cX4_addLine 0 = .ok (.iload_n 1, 1) := by decide +kernel
theorem dX4_addLine_1 : decode cX4_addLine 1 = .ok (.iconst 0, 1) := by decide +kernel
theorem dX4_addLine_2 : decode cX4_addLine 2 = .ok (.iconst 2, 1) := by decide +kernel
theorem dX4_addLine_3 : decode cX4_addLine 3 = .ok (.invokestatic 35, 3) := by decide +kernel
theorem dX4_addLine_6 : decode cX4_addLine 6 = .ok (.iload_n 2, 1) := by decide +kernel
theorem dX4_addLine_7 : decode cX4_addLine 7 = .ok (.invokestatic 39, 3) := by decide +kernel
theorem dX4_addLine_10 : decode cX4_addLine 10 = .ok (.aload_n 0, 1) := by decide +kernel
theorem dX4_addLine_11 : decode cX4_addLine 11 = .ok (.iload_n 1, 1) := by decide +kernel
theorem dX4_addLine_12 : decode cX4_addLine 12 = .ok (.iload_n 2, 1) := by decide +kernel
theorem dX4_addLine_13 : decode cX4_addLine 13 = .ok (.invokevirtual 43, 3) := by decide +kernel
theorem dX4_addLine_16 : decode cX4_addLine 16 = .ok (.pop, 1) := by decide +kernel
theorem dX4_addLine_17 : decode cX4_addLine 17 = .ok (.aload_n 0, 1) := by decide +kernel
theorem dX4_addLine_18 : decode cX4_addLine 18 = .ok (.getfield 47, 3) := by decide +kernel
theorem dX4_addLine_21 : decode cX4_addLine 21 = .ok (.iconst 1, 1) := by decide +kernel
theorem dX4_addLine_22 : decode cX4_addLine 22 = .ok (.isub, 1) := by decide +kernel
theorem dX4_addLine_23 : decode cX4_addLine 23 = .ok (.ireturn, 1) := by decide +kernel
set_option maxRecDepth 20000 in
theorem ggX4_addPattern_X4_lineAt : GoodIn wsX4_addPattern wsX4_lineAt := goodIn_ca (goodIn_r _ [5, 6, 7, 8, 9, 41, 42, 43, 44, 45, 46, 47, 48, 49, 50, 51, 52] (by decide +kernel) (by decide +kernel)) (goodIn_sub (fun _ h => List.mem_cons_of_mem _ (List.mem_append_left _ (List.mem_append_left _ (List.mem_append_right _ h)))) (by decide +kernel))
set_option maxRecDepth 20000 in
theorem gX4_addPattern_X4_lineAt : GoodIn wsX4_addPattern (wsV RX4 50 RX4 yX4_lineAt wsX4_lineAt) := goodIn_app (goodIn_of _ (by decide +kernel)) ggX4_addPattern_X4_lineAt
set_option maxRecDepth 20000 in
theorem ggX4_addPattern_X4_requireNameAndPort : GoodIn wsX4_addPattern wsX4_requireNameAndPort := goodIn_ca (goodIn_r _ [12, 13, 14, 4, 15, 16, 17] (by decide +kernel) (by decide +kernel)) (goodIn_sub (fun _ h => List.mem_cons_of_mem _ (List.mem_append_left _ (List.mem_append_right _ h))) (by decide +kernel))
set_option maxRecDepth 20000 in
theorem gX4_addPattern_X4_requireNameAndPort : GoodIn wsX4_addPattern (va_wsS RX4 54 yX4_requireNameAndPort wsX4_requireNameAndPort) := goodIn_app (goodIn_of _ (by decide +kernel)) ggX4_addPattern_X4_requireNameAndPort
set_option maxRecDepth 20000 in
theorem ggX4_addPattern_X4_requireWithin : GoodIn wsX4_addPattern wsX4_requireWithin := goodIn_ca (goodIn_r _ [15, 16, 17] (by decide +kernel) (by decide +kernel)) (goodIn_sub (fun _ h => List.mem_cons_of_mem _ (List.mem_append_left _ (List.mem_append_right _ h))) (by decide +kernel))
set_option maxRecDepth 20000 in
theorem gX4_addPattern_X4_requireWithin : GoodIn wsX4_addPattern (va_wsS RX4 35 yX4_requireWithin wsX4_requireWithin) := goodIn_app (goodIn_of _ (by decide +kernel)) ggX4_addPattern_X4_requireWithin
set_option maxRecDepth 20000 in
theorem ggX4_addPattern_X1_takePattern : GoodIn wsX4_addPattern wsX1_takePattern := goodIn_ca (goodIn_r _ [22, 23, 24, 25, 26, 27, 28, 29, 30, 31, 32, 33, 34, 35, 36, 37, 38, 39, 40, 53, 54, 55, 56, 57, 58, 59, 60, 61, 62, 63, 64, 65, 66] (by decide +kernel) (by decide +kernel)) (goodIn_sub (fun _ h => List.mem_cons_of_mem _ (List.mem_append_right _ h)) (by decide +kernel))
set_option maxRecDepth 20000 in
theorem gX4_addPattern_X1_takePattern : GoodIn wsX4_addPattern (wsV RX4 58 RX1 yX1_takePattern wsX1_takePattern) := goodIn_app (goodIn_of _ (by decide +kernel)) ggX4_addPattern_X1_takePattern
theorem dX4_addPattern_0 : decode cX4_addPattern 0 = .ok (.aload_n 0, 1) := by decide +kernel
theorem dX4_addPattern_1 : decode cX4_addPattern 1 = .ok (.iload_n 1, 1) := by decide +kernel
theorem dX4_addPattern_2 : decode cX4_addPattern 2 = .ok (.invokevirtual 50, 3) := by decide +kernel
theorem dX4_addPattern_5 : decode cX4_addPattern 5 = .ok (.astore 6, 2) := by decide +kernel
theorem dX4_addPattern_7 : decode cX4_addPattern 7 = .ok (.iload_n 2, 1) := by decide +kernel
theorem dX4_addPattern_8 : decode cX4_addPattern 8 = .ok (.iload 4, 2) := by decide +kernel
theorem dX4_addPattern_10 : decode cX4_addPattern 10 = .ok (.invokestatic 54, 3) := by decide +kernel
theorem dX4_addPattern_13 : decode cX4_addPattern 13 = .ok (.iload_n 3, 1) := by decide +kernel
theorem dX4_addPattern_14 : decode cX4_addPattern 14 = .ok (.iconst 0, 1) := by decide +kernel
theorem dX4_addPattern_15 : decode cX4_addPattern 15 = .ok (.bipush 15, 2) := by decide +kernel
theorem dX4_addPattern_17 : decode cX4_addPattern 17 = .ok (.invokestatic 35, 3) := by decide +kernel
theorem dX4_addPattern_20 : decode cX4_addPattern 20 = .ok (.aload 6, 2) := by decide +kernel
theorem dX4_addPattern_22 : decode cX4_addPattern 22 = .ok (.iload_n 2, 1) := by decide +kernel
theorem dX4_addPattern_23 : decode cX4_addPattern 23 = .ok (.iload_n 3, 1) := by decide +kernel
theorem dX4_addPattern_24 : decode cX4_addPattern 24 = .ok (.iload 4, 2) := by decide +kernel
theorem dX4_addPattern_26 : decode cX4_addPattern 26 = .ok (.iload 5, 2) := by decide +kernel
theorem dX4_addPattern_28 : decode cX4_addPattern 28 = .ok (.invokevirtual 58, 3) := by decide +kernel
theorem dX4_addPattern_31 : decode cX4_addPattern 31 = .ok (.ireturn, 1) := by decide +kernel
set_option maxRecDepth 20000 in
theorem ggX4_addHashed_X4_requireWithin : GoodIn wsX4_addHashed wsX4_requireWithin := goodIn_ca (goodIn_r _ [5, 6, 7] (by decide +kernel) (by decide +kernel)) (goodIn_sub (fun _ h => List.mem_cons_of_mem _ (List.mem_append_left _ (List.mem_append_right _ h))) (by decide +kernel))
set_option maxRecDepth 20000 in
theorem gX4_addHashed_X4_requireWithin : GoodIn wsX4_addHashed (va_wsS RX4 35 yX4_requireWithin wsX4_requireWithin) := goodIn_app (goodIn_of _ (by decide +kernel)) ggX4_addHashed_X4_requireWithin
set_option maxRecDepth 20000 in
theorem ggX4_addHashed_X4_requireKey : GoodIn wsX4_addHashed wsX4_requireKey := goodIn_ca (goodIn_r _ [10, 2, 3, 4, 5, 6, 7] (by decide +kernel) (by decide +kernel)) (goodIn_sub (fun _ h => List.mem_cons_of_mem _ (List.mem_append_left _ (List.mem_append_right _ h))) (by decide +kernel))
set_option maxRecDepth 20000 in
theorem gX4_addHashed_X4_requireKey : GoodIn wsX4_addHashed (va_wsS RX4 39 yX4_requireKey wsX4_requireKey) := goodIn_app (goodIn_of _ (by decide +kernel)) ggX4_addHashed_X4_requireKey
set_option maxRecDepth 20000 in
theorem ggX4_addHashed_X4_requireNameAndPort : GoodIn wsX4_addHashed wsX4_requireNameAndPort := goodIn_ca (goodIn_r _ [13, 2, 3, 4, 5, 6, 7] (by decide +kernel) (by decide +kernel)) (goodIn_sub (fun _ h => List.mem_cons_of_mem _ (List.mem_append_left _ (List.mem_append_right _ h))) (by decide +kernel))
set_option maxRecDepth 20000 in
theorem gX4_addHashed_X4_requireNameAndPort : GoodIn wsX4_addHashed (va_wsS RX4 54 yX4_requireNameAndPort wsX4_requireNameAndPort) := goodIn_app (goodIn_of _ (by decide +kernel)) ggX4_addHashed_X4_requireNameAndPort
set_option maxRecDepth 20000 in
theorem ggX4_addHashed_X4_appendLine : GoodIn wsX4_addHashed wsX4_appendLine := goodIn_ca (goodIn_r _ [17, 18, 19, 1, 20, 21, 22, 23, 24, 25, 26, 27, 28, 29, 30, 31, 32, 43, 44, 45, 46, 47, 48, 49, 50, 51, 52, 53, 54, 55, 56, 57, 58, 59, 60, 61, 62, 63, 64] (by decide +kernel) (by decide +kernel)) (goodIn_sub (fun _ h => List.mem_cons_of_mem _ (List.mem_append_right _ h)) (by decide +kernel))
set_option maxRecDepth 20000 in
theorem gX4_addHashed_X4_appendLine : GoodIn wsX4_addHashed (wsV RX4 43 RX4 yX4_appendLine wsX4_appendLine) := goodIn_app (goodIn_of _ (by decide +kernel)) ggX4_addHashed_X4_appendLine
set_option maxRecDepth 20000 in
theorem ggX4_addHashed_X1_takeHash : GoodIn wsX4_addHashed wsX1_takeHash := goodIn_r _ [36, 32, 37, 38, 39, 40, 41, 25, 42, 55, 56, 57, 58, 59, 60, 61, 62, 63, 64] (by decide +kernel) (by decide +kernel)
set_option maxRecDepth 20000 in
theorem gX4_addHashed_X1_takeHash : GoodIn wsX4_addHashed (wsV RX4 62 RX1 yX1_takeHash wsX1_takeHash) := goodIn_app (goodIn_of _ (by decide +kernel)) ggX4_addHashed_X1_takeHash
theorem dX4_addHashed_0 : decode cX4_addHashed 0 = .ok (.iload_n 1, 1) := by decide +kernel
theorem dX4_addHashed_1 : decode cX4_addHashed 1 = .ok (.iconst 0, 1) := by decide +kernel
theorem dX4_addHashed_2 : decode cX4_addHashed 2 = .ok (.iconst 2, 1) := by decide +kernel
theorem dX4_addHashed_3 : decode cX4_addHashed 3 = .ok (.invokestatic 35, 3) := by decide +kernel
theorem dX4_addHashed_6 : decode cX4_addHashed 6 = .ok (.iload_n 2, 1) := by decide +kernel
theorem dX4_addHashed_7 : decode cX4_addHashed 7 = .ok (.invokestatic 39, 3) := by decide +kernel
theorem dX4_addHashed_10 : decode cX4_addHashed 10 = .ok (.iload_n 3, 1) := by decide +kernel
theorem dX4_addHashed_11 : decode cX4_addHashed 11 = .ok (.iload 4, 2) := by decide +kernel
theorem dX4_addHashed_13 : decode cX4_addHashed 13 = .ok (.invokestatic 54, 3) := by decide +kernel
theorem dX4_addHashed_16 : decode cX4_addHashed 16 = .ok (.iload 5, 2) := by decide +kernel
theorem dX4_addHashed_18 : decode cX4_addHashed 18 = .ok (.iconst 0, 1) := by decide +kernel
theorem dX4_addHashed_19 : decode cX4_addHashed 19 = .ok (.bipush 99, 2) := by decide +kernel
theorem dX4_addHashed_21 : decode cX4_addHashed 21 = .ok (.invokestatic 35, 3) := by decide +kernel
theorem dX4_addHashed_24 : decode cX4_addHashed 24 = .ok (.aload_n 0, 1) := by decide +kernel
theorem dX4_addHashed_25 : decode cX4_addHashed 25 = .ok (.iload_n 1, 1) := by decide +kernel
theorem dX4_addHashed_26 : decode cX4_addHashed 26 = .ok (.iload_n 2, 1) := by decide +kernel
theorem dX4_addHashed_27 : decode cX4_addHashed 27 = .ok (.invokevirtual 43, 3) := by decide +kernel
theorem dX4_addHashed_30 : decode cX4_addHashed 30 = .ok (.iload_n 3, 1) := by decide +kernel
theorem dX4_addHashed_31 : decode cX4_addHashed 31 = .ok (.iload 4, 2) := by decide +kernel
theorem dX4_addHashed_33 : decode cX4_addHashed 33 = .ok (.iload 5, 2) := by decide +kernel
theorem dX4_addHashed_35 : decode cX4_addHashed 35 = .ok (.invokevirtual 62, 3) := by decide +kernel
theorem dX4_addHashed_38 : decode cX4_addHashed 38 = .ok (.aload_n 0, 1) := by decide +kernel
theorem dX4_addHashed_39 : decode cX4_addHashed 39 = .ok (.getfield 47, 3) := by decide +kernel
theorem dX4_addHashed_42 : decode cX4_addHashed 42 = .ok (.iconst 1, 1) := by decide +kernel
theorem dX4_addHashed_43 : decode cX4_addHashed 43 = .ok (.isub, 1) := by decide +kernel
theorem dX4_addHashed_44 : decode cX4_addHashed 44 = .ok (.ireturn, 1) := by decide +kernel
set_option maxRecDepth 20000 in
theorem ggX4_remove_X4_lineAt : GoodIn wsX4_remove wsX4_lineAt := goodIn_ca (goodIn_r _ [5, 6, 7, 8, 9, 24, 25, 26, 27, 28, 29, 30, 31, 32, 33, 34, 35] (by decide +kernel) (by decide +kernel)) (goodIn_sub (fun _ h => List.mem_cons_of_mem _ (List.mem_append_right _ h)) (by decide +kernel))
set_option maxRecDepth 20000 in
theorem gX4_remove_X4_lineAt : GoodIn wsX4_remove (wsV RX4 50 RX4 yX4_lineAt wsX4_lineAt) := goodIn_app (goodIn_of _ (by decide +kernel)) ggX4_remove_X4_lineAt
set_option maxRecDepth 20000 in
theorem ggX4_remove_X4_takeOut : GoodIn wsX4_remove wsX4_takeOut := goodIn_r _ [13, 9, 8, 24, 25, 26, 27, 28, 29, 30, 31, 32, 33, 34, 35] (by decide +kernel) (by decide +kernel)
set_option maxRecDepth 20000 in
theorem gX4_remove_X4_takeOut : GoodIn wsX4_remove (wsV RX4 68 RX4 yX4_takeOut wsX4_takeOut) := goodIn_app (goodIn_of _ (by decide +kernel)) ggX4_remove_X4_takeOut
theorem dX4_remove_0 : decode cX4_remove 0 = .ok (.aload_n 0, 1) := by decide +kernel
theorem dX4_remove_1 : decode cX4_remove 1 = .ok (.iload_n 1, 1) := by decide +kernel
theorem dX4_remove_2 : decode cX4_remove 2 = .ok (.invokevirtual 50, 3) := by decide +kernel
theorem dX4_remove_5 : decode cX4_remove 5 = .ok (.getfield 65, 3) := by decide +kernel
theorem dX4_remove_8 : decode cX4_remove 8 = .ok (.istore_n 2, 1) := by decide +kernel
theorem dX4_remove_9 : decode cX4_remove 9 = .ok (.aload_n 0, 1) := by decide +kernel
theorem dX4_remove_10 : decode cX4_remove 10 = .ok (.iload_n 1, 1) := by decide +kernel
theorem dX4_remove_11 : decode cX4_remove 11 = .ok (.invokevirtual 68, 3) := by decide +kernel
theorem dX4_remove_14 : decode cX4_remove 14 = .ok (.iload_n 2, 1) := by decide +kernel
theorem dX4_remove_15 : decode cX4_remove 15 = .ok (.ireturn, 1) := by decide +kernel
set_option maxRecDepth 20000 in
theorem ggX4_certify_X4_requireKey : GoodIn wsX4_certify wsX4_requireKey := goodIn_ca (goodIn_r _ [11, 12, 13, 10, 14, 15, 16] (by decide +kernel) (by decide +kernel)) (goodIn_sub (fun _ h => List.mem_cons_of_mem _ (List.mem_append_right _ h)) (by decide +kernel))
set_option maxRecDepth 20000 in
theorem gX4_certify_X4_requireKey : GoodIn wsX4_certify (va_wsS RX4 39 yX4_requireKey wsX4_requireKey) := goodIn_app (goodIn_of _ (by decide +kernel)) ggX4_certify_X4_requireKey
set_option maxRecDepth 20000 in
theorem ggX4_certify_X4_requireWithin : GoodIn wsX4_certify wsX4_requireWithin := goodIn_ca (goodIn_r _ [14, 15, 16] (by decide +kernel) (by decide +kernel)) (goodIn_sub (fun _ h => List.mem_cons_of_mem _ (List.mem_append_right _ h)) (by decide +kernel))
set_option maxRecDepth 20000 in
theorem gX4_certify_X4_requireWithin : GoodIn wsX4_certify (va_wsS RX4 35 yX4_requireWithin wsX4_requireWithin) := goodIn_app (goodIn_of _ (by decide +kernel)) ggX4_certify_X4_requireWithin
set_option maxRecDepth 20000 in
theorem ggX4_certify_X0_init : GoodIn wsX4_certify wsX0_init := goodIn_r _ [19, 20, 21, 22, 23, 24, 25, 26, 27, 28, 29, 42, 43, 44, 45, 46, 47, 48] (by decide +kernel) (by decide +kernel)
set_option maxRecDepth 20000 in
theorem gX4_certify_X0_init : GoodIn wsX4_certify (wsX0_init) := ggX4_certify_X0_init
theorem dX4_certify_0 : decode cX4_certify 0 = .ok (.iload_n 1, 1) := by decide +kernel
theorem dX4_certify_1 : decode cX4_certify 1 = .ok (.invokestatic 39, 3) := by decide +kernel
theorem dX4_certify_4 : decode cX4_certify 4 = .ok (.iload_n 2, 1) := by decide +kernel
theorem dX4_certify_5 : decode cX4_certify 5 = .ok (.invokestatic 39, 3) := by decide +kernel
theorem dX4_certify_8 : decode cX4_certify 8 = .ok (.iload_n 3, 1) := by decide +kernel
theorem dX4_certify_9 : decode cX4_certify 9 = .ok (.iconst 0, 1) := by decide +kernel
theorem dX4_certify_10 : decode cX4_certify 10 = .ok (.sipush 9999, 3) := by decide +kernel
theorem dX4_certify_13 : decode cX4_certify 13 = .ok (.invokestatic 35, 3) := by decide +kernel
theorem dX4_certify_16 : decode cX4_certify 16 = .ok (.iload 4, 2) := by decide +kernel
theorem dX4_certify_18 : decode cX4_certify 18 = .ok (.iconst 0, 1) := by decide +kernel
theorem dX4_certify_19 : decode cX4_certify 19 = .ok (.bipush 15, 2) := by decide +kernel
theorem dX4_certify_21 : decode cX4_certify 21 = .ok (.invokestatic 35, 3) := by decide +kernel
theorem dX4_certify_24 : decode cX4_certify 24 = .ok (.iload 5, 2) := by decide +kernel
theorem dX4_certify_26 : decode cX4_certify 26 = .ok (.iconst 0, 1) := by decide +kernel
theorem dX4_certify_27 : decode cX4_certify 27 = .ok (.sipush 999, 3) := by decide +kernel
theorem dX4_certify_30 : decode cX4_certify 30 = .ok (.invokestatic 35, 3) := by decide +kernel
theorem dX4_certify_33 : decode cX4_certify 33 = .ok (.iload 6, 2) := by decide +kernel
theorem dX4_certify_35 : decode cX4_certify 35 = .ok (.iconst 0, 1) := by decide +kernel
theorem dX4_certify_36 : decode cX4_certify 36 = .ok (.sipush 5000, 3) := by decide +kernel
theorem dX4_certify_39 : decode cX4_certify 39 = .ok (.invokestatic 35, 3) := by decide +kernel
theorem dX4_certify_42 : decode cX4_certify 42 = .ok (.iload 7, 2) := by decide +kernel
theorem dX4_certify_44 : decode cX4_certify 44 = .ok (.iload 6, 2) := by decide +kernel
theorem dX4_certify_46 : decode cX4_certify 46 = .ok (.sipush 5000, 3) := by decide +kernel
theorem dX4_certify_49 : decode cX4_certify 49 = .ok (.invokestatic 35, 3) := by decide +kernel
theorem dX4_certify_52 : decode cX4_certify 52 = .ok (.aload_n 0, 1) := by decide +kernel
theorem dX4_certify_53 : decode cX4_certify 53 = .ok (.getfield 71, 3) := by decide +kernel
theorem dX4_certify_56 : decode cX4_certify 56 = .ok (.bipush 20, 2) := by decide +kernel
theorem dX4_certify_58 : decode cX4_certify 58 = .ok (.if_icmp .lt 13, 3) := by decide +kernel
theorem dX4_certify_61 : decode cX4_certify 61 = .ok (.new 74, 3) := by decide +kernel
theorem dX4_certify_64 : decode cX4_certify 64 = .ok (.dup, 1) := by decide +kernel
theorem dX4_certify_65 : decode cX4_certify 65 = .ok (.ldc 76, 2) := by decide +kernel
theorem dX4_certify_67 : decode cX4_certify 67 = .ok (.invokespecial 78, 3) := by decide +kernel
theorem dX4_certify_70 : decode cX4_certify 70 = .ok (.athrow, 1) := by decide +kernel
theorem dX4_certify_71 : decode cX4_certify 71 = .ok (.aload_n 0, 1) := by decide +kernel
theorem dX4_certify_72 : decode cX4_certify 72 = .ok (.getfield 17, 3) := by decide +kernel
theorem dX4_certify_75 : decode cX4_certify 75 = .ok (.aload_n 0, 1) := by decide +kernel
theorem dX4_certify_76 : decode cX4_certify 76 = .ok (.getfield 71, 3) := by decide +kernel
theorem dX4_certify_79 : decode cX4_certify 79 = .ok (.new 15, 3) := by decide +kernel
theorem dX4_certify_82 : decode cX4_certify 82 = .ok (.dup, 1) := by decide +kernel
theorem dX4_certify_83 : decode cX4_certify 83 = .ok (.iload_n 1, 1) := by decide +kernel
theorem dX4_certify_84 : decode cX4_certify 84 = .ok (.iload_n 2, 1) := by decide +kernel
theorem dX4_certify_85 : decode cX4_certify 85 = .ok (.iload_n 3, 1) := by decide +kernel
theorem dX4_certify_86 : decode cX4_certify 86 = .ok (.iload 4, 2) := by decide +kernel
theorem dX4_certify_88 : decode cX4_certify 88 = .ok (.iload 5, 2) := by decide +kernel
theorem dX4_certify_90 : decode cX4_certify 90 = .ok (.iload 6, 2) := by decide +kernel
theorem dX4_certify_92 : decode cX4_certify 92 = .ok (.iload 7, 2) := by decide +kernel
theorem dX4_certify_94 : decode cX4_certify 94 = .ok (.invokespecial 81, 3) := by decide +kernel
theorem dX4_certify_97 : decode cX4_certify 97 = .ok (.aastore, 1) := by decide +kernel
theorem dX4_certify_98 : decode cX4_certify 98 = .ok (.aload_n 0, 1) := by decide +kernel
theorem dX4_certify_99 : decode cX4_certify 99 = .ok (.dup, 1) := by decide +kernel
theorem dX4_certify_100 : decode cX4_certify 100 = .ok (.getfield 71, 3) := by decide +kernel
theorem dX4_certify_103 : decode cX4_certify 103 = .ok (.iconst 1, 1) := by decide +kernel
theorem dX4_certify_104 : decode cX4_certify 104 = .ok (.iadd, 1) := by decide +kernel
theorem dX4_certify_105 : decode cX4_certify 105 = .ok (.putfield 71, 3) := by decide +kernel
theorem dX4_certify_108 : decode cX4_certify 108 = .ok (.aload_n 0, 1) := by decide +kernel
theorem dX4_certify_109 : decode cX4_certify 109 = .ok (.getfield 71, 3) := by decide +kernel
theorem dX4_certify_112 : decode cX4_certify 112 = .ok (.iconst 1, 1) := by decide +kernel
theorem dX4_certify_113 : decode cX4_certify 113 = .ok (.isub, 1) := by decide +kernel
theorem dX4_certify_114 : decode cX4_certify 114 = .ok (.ireturn, 1) := by decide +kernel
set_option maxRecDepth 20000 in
theorem ggX4_revokeSpan_X4_requireKey : GoodIn wsX4_revokeSpan wsX4_requireKey := goodIn_ca (goodIn_r _ [11, 12, 13, 10, 14, 15, 16] (by decide +kernel) (by decide +kernel)) (goodIn_sub (fun _ h => List.mem_cons_of_mem _ (List.mem_append_right _ h)) (by decide +kernel))
set_option maxRecDepth 20000 in
theorem gX4_revokeSpan_X4_requireKey : GoodIn wsX4_revokeSpan (va_wsS RX4 39 yX4_requireKey wsX4_requireKey) := goodIn_app (goodIn_of _ (by decide +kernel)) ggX4_revokeSpan_X4_requireKey
set_option maxRecDepth 20000 in
theorem ggX4_revokeSpan_X4_requireWithin : GoodIn wsX4_revokeSpan wsX4_requireWithin := goodIn_ca (goodIn_r _ [14, 15, 16] (by decide +kernel) (by decide +kernel)) (goodIn_sub (fun _ h => List.mem_cons_of_mem _ (List.mem_append_right _ h)) (by decide +kernel))
set_option maxRecDepth 20000 in
theorem gX4_revokeSpan_X4_requireWithin : GoodIn wsX4_revokeSpan (va_wsS RX4 35 yX4_requireWithin wsX4_requireWithin) := goodIn_app (goodIn_of _ (by decide +kernel)) ggX4_revokeSpan_X4_requireWithin
set_option maxRecDepth 20000 in
theorem ggX4_revokeSpan_X3_init : GoodIn wsX4_revokeSpan wsX3_init := goodIn_r _ [19, 20, 21, 22, 23, 24, 25, 52, 53, 54] (by decide +kernel) (by decide +kernel)
set_option maxRecDepth 20000 in
theorem gX4_revokeSpan_X3_init : GoodIn wsX4_revokeSpan (wsX3_init) := ggX4_revokeSpan_X3_init
set_option maxRecDepth 20000 in
theorem ggX4_revokeSpan_X4_countRevokedCertificates : GoodIn wsX4_revokeSpan wsX4_countRevokedCertificates := goodIn_r _ [29, 30, 31, 32, 33, 34, 10, 35, 3, 4, 36, 37, 38, 7, 39, 23, 24, 25, 40, 41, 42, 43, 44, 45, 46, 47, 48, 49, 50, 51, 55, 56, 57, 58, 59, 60, 61, 52, 53, 54] (by decide +kernel) (by decide +kernel)
set_option maxRecDepth 20000 in
theorem gX4_revokeSpan_X4_countRevokedCertificates : GoodIn wsX4_revokeSpan (wsV RX4 91 RX4 yX4_countRevokedCertificates wsX4_countRevokedCertificates) := goodIn_app (goodIn_of _ (by decide +kernel)) ggX4_revokeSpan_X4_countRevokedCertificates
theorem dX4_revokeSpan_0 : decode cX4_revokeSpan 0 = .ok (.iload_n 1, 1) := by decide +kernel
theorem dX4_revokeSpan_1 : decode cX4_revokeSpan 1 = .ok (.invokestatic 39, 3) := by decide +kernel
theorem dX4_revokeSpan_4 : decode cX4_revokeSpan 4 = .ok (.iload_n 2, 1) := by decide +kernel
theorem dX4_revokeSpan_5 : decode cX4_revokeSpan 5 = .ok (.iconst 0, 1) := by decide +kernel
theorem dX4_revokeSpan_6 : decode cX4_revokeSpan 6 = .ok (.sipush 999, 3) := by decide +kernel
theorem dX4_revokeSpan_9 : decode cX4_revokeSpan 9 = .ok (.invokestatic 35, 3) := by decide +kernel
theorem dX4_revokeSpan_12 : decode cX4_revokeSpan 12 = .ok (.iload_n 3, 1) := by decide +kernel
theorem dX4_revokeSpan_13 : decode cX4_revokeSpan 13 = .ok (.iload_n 2, 1) := by decide +kernel
theorem dX4_revokeSpan_14 : decode cX4_revokeSpan 14 = .ok (.sipush 999, 3) := by decide +kernel
theorem dX4_revokeSpan_17 : decode cX4_revokeSpan 17 = .ok (.invokestatic 35, 3) := by decide +kernel
theorem dX4_revokeSpan_20 : decode cX4_revokeSpan 20 = .ok (.aload_n 0, 1) := by decide +kernel
theorem dX4_revokeSpan_21 : decode cX4_revokeSpan 21 = .ok (.getfield 84, 3) := by decide +kernel
theorem dX4_revokeSpan_24 : decode cX4_revokeSpan 24 = .ok (.bipush 20, 2) := by decide +kernel
theorem dX4_revokeSpan_26 : decode cX4_revokeSpan 26 = .ok (.if_icmp .lt 13, 3) := by decide +kernel
theorem dX4_revokeSpan_29 : decode cX4_revokeSpan 29 = .ok (.new 74, 3) := by decide +kernel
theorem dX4_revokeSpan_32 : decode cX4_revokeSpan 32 = .ok (.dup, 1) := by decide +kernel
theorem dX4_revokeSpan_33 : decode cX4_revokeSpan 33 = .ok (.ldc 87, 2) := by decide +kernel
theorem dX4_revokeSpan_35 : decode cX4_revokeSpan 35 = .ok (.invokespecial 78, 3) := by decide +kernel
theorem dX4_revokeSpan_38 : decode cX4_revokeSpan 38 = .ok (.athrow, 1) := by decide +kernel
theorem dX4_revokeSpan_39 : decode cX4_revokeSpan 39 = .ok (.aload_n 0, 1) := by decide +kernel
theorem dX4_revokeSpan_40 : decode cX4_revokeSpan 40 = .ok (.getfield 23, 3) := by decide +kernel
theorem dX4_revokeSpan_43 : decode cX4_revokeSpan 43 = .ok (.aload_n 0, 1) := by decide +kernel
theorem dX4_revokeSpan_44 : decode cX4_revokeSpan 44 = .ok (.getfield 84, 3) := by decide +kernel
theorem dX4_revokeSpan_47 : decode cX4_revokeSpan 47 = .ok (.new 21, 3) := by decide +kernel
theorem dX4_revokeSpan_50 : decode cX4_revokeSpan 50 = .ok (.dup, 1) := by decide +kernel
theorem dX4_revokeSpan_51 : decode cX4_revokeSpan 51 = .ok (.iload_n 1, 1) := by decide +kernel
theorem dX4_revokeSpan_52 : decode cX4_revokeSpan 52 = .ok (.iload_n 2, 1) := by decide +kernel
theorem dX4_revokeSpan_53 : decode cX4_revokeSpan 53 = .ok (.iload_n 3, 1) := by decide +kernel
theorem dX4_revokeSpan_54 : decode cX4_revokeSpan 54 = .ok (.invokespecial 89, 3) := by decide +kernel
theorem dX4_revokeSpan_57 : decode cX4_revokeSpan 57 = .ok (.aastore, 1) := by decide +kernel
theorem dX4_revokeSpan_58 : decode cX4_revokeSpan 58 = .ok (.aload_n 0, 1) := by decide +kernel
theorem dX4_revokeSpan_59 : decode cX4_revokeSpan 59 = .ok (.dup, 1) := by decide +kernel
theorem dX4_revokeSpan_60 : decode cX4_revokeSpan 60 = .ok (.getfield 84, 3) := by decide +kernel
theorem dX4_revokeSpan_63 : decode cX4_revokeSpan 63 = .ok (.iconst 1, 1) := by decide +kernel
theorem dX4_revokeSpan_64 : decode cX4_revokeSpan 64 = .ok (.iadd, 1) := by decide +kernel
theorem dX4_revokeSpan_65 : decode cX4_revokeSpan 65 = .ok (.putfield 84, 3) := by decide +kernel
theorem dX4_revokeSpan_68 : decode cX4_revokeSpan 68 = .ok (.aload_n 0, 1) := by decide +kernel
theorem dX4_revokeSpan_69 : decode cX4_revokeSpan 69 = .ok (.invokevirtual 91, 3) := by decide +kernel
theorem dX4_revokeSpan_72 : decode cX4_revokeSpan 72 = .ok (.ireturn, 1) := by decide +kernel
set_option maxRecDepth 20000 in
theorem ggX4_setFirstSight_X4_requireWithin : GoodIn wsX4_setFirstSight wsX4_requireWithin := goodIn_ca (goodIn_r _ [6, 7, 8] (by decide +kernel) (by decide +kernel)) (goodIn_sub (fun _ h => List.mem_cons_of_mem _ (List.mem_append_right _ h)) (by decide +kernel))
set_option maxRecDepth 20000 in
theorem gX4_setFirstSight_X4_requireWithin : GoodIn wsX4_setFirstSight (va_wsS RX4 35 yX4_requireWithin wsX4_requireWithin) := goodIn_app (goodIn_of _ (by decide +kernel)) ggX4_setFirstSight_X4_requireWithin
theorem dX4_setFirstSight_0 : decode cX4_setFirstSight 0 = .ok (.iload_n 1, 1) := by decide +kernel
theorem dX4_setFirstSight_1 : decode cX4_setFirstSight 1 = .ok (.iconst 0, 1) := by decide +kernel
theorem dX4_setFirstSight_2 : decode cX4_setFirstSight 2 = .ok (.iconst 2, 1) := by decide +kernel
theorem dX4_setFirstSight_3 : decode cX4_setFirstSight 3 = .ok (.invokestatic 35, 3) := by decide +kernel
theorem dX4_setFirstSight_6 : decode cX4_setFirstSight 6 = .ok (.aload_n 0, 1) := by decide +kernel
theorem dX4_setFirstSight_7 : decode cX4_setFirstSight 7 = .ok (.getfield 27, 3) := by decide +kernel
theorem dX4_setFirstSight_10 : decode cX4_setFirstSight 10 = .ok (.istore_n 3, 1) := by decide +kernel
theorem dX4_setFirstSight_11 : decode cX4_setFirstSight 11 = .ok (.aload_n 0, 1) := by decide +kernel
theorem dX4_setFirstSight_12 : decode cX4_setFirstSight 12 = .ok (.iload_n 1, 1) := by decide +kernel
theorem dX4_setFirstSight_13 : decode cX4_setFirstSight 13 = .ok (.putfield 27, 3) := by decide +kernel
theorem dX4_setFirstSight_16 : decode cX4_setFirstSight 16 = .ok (.aload_n 0, 1) := by decide +kernel
theorem dX4_setFirstSight_17 : decode cX4_setFirstSight 17 = .ok (.iload_n 2, 1) := by decide +kernel
theorem dX4_setFirstSight_18 : decode cX4_setFirstSight 18 = .ok (.putfield 95, 3) := by decide +kernel
theorem dX4_setFirstSight_21 : decode cX4_setFirstSight 21 = .ok (.iload_n 3, 1) := by decide +kernel
theorem dX4_setFirstSight_22 : decode cX4_setFirstSight 22 = .ok (.ireturn, 1) := by decide +kernel
set_option maxRecDepth 20000 in
theorem ggX4_answer_X4_certificateAt : GoodIn wsX4_answer wsX4_certificateAt := goodIn_ca (goodIn_r _ [8, 9, 10, 11, 12, 154, 155, 156, 157, 158, 159, 160, 161, 162, 163, 164, 165] (by decide +kernel) (by decide +kernel)) (goodIn_sub (fun _ h => List.mem_cons_of_mem _ (List.mem_append_left _ (List.mem_append_left _ (List.mem_append_left _ (List.mem_append_right _ h))))) (by decide +kernel))
set_option maxRecDepth 20000 in
theorem gX4_answer_X4_certificateAt : GoodIn wsX4_answer (wsV RX4 99 RX4 yX4_certificateAt wsX4_certificateAt) := goodIn_app (goodIn_of _ (by decide +kernel)) ggX4_answer_X4_certificateAt
set_option maxRecDepth 20000 in
theorem ggX4_answer_X4_requireNameAndPort : GoodIn wsX4_answer wsX4_requireNameAndPort := goodIn_ca (goodIn_r _ [15, 16, 17, 7, 18, 19, 20] (by decide +kernel) (by decide +kernel)) (goodIn_sub (fun _ h => List.mem_cons_of_mem _ (List.mem_append_left _ (List.mem_append_left _ (List.mem_append_right _ h)))) (by decide +kernel))
set_option maxRecDepth 20000 in
theorem gX4_answer_X4_requireNameAndPort : GoodIn wsX4_answer (va_wsS RX4 54 yX4_requireNameAndPort wsX4_requireNameAndPort) := goodIn_app (goodIn_of _ (by decide +kernel)) ggX4_answer_X4_requireNameAndPort
set_option maxRecDepth 20000 in
theorem ggX4_answer_X4_requireKey : GoodIn wsX4_answer wsX4_requireKey := goodIn_ca (goodIn_r _ [23, 16, 17, 7, 18, 19, 20] (by decide +kernel) (by decide +kernel)) (goodIn_sub (fun _ h => List.mem_cons_of_mem _ (List.mem_append_left _ (List.mem_append_left _ (List.mem_append_right _ h)))) (by decide +kernel))
set_option maxRecDepth 20000 in
theorem gX4_answer_X4_requireKey : GoodIn wsX4_answer (va_wsS RX4 39 yX4_requireKey wsX4_requireKey) := goodIn_app (goodIn_of _ (by decide +kernel)) ggX4_answer_X4_requireKey
set_option maxRecDepth 20000 in
theorem ggX4_answer_X4_judgementOf : GoodIn wsX4_answer wsX4_judgementOf := goodIn_r _ [27, 28, 29, 7, 30, 31, 32, 33, 34, 3, 35, 36, 37, 38, 39, 40, 41, 42, 43, 44, 45, 46, 47, 48, 49, 50, 51, 52, 53, 54, 55, 56, 57, 58, 59, 60, 61, 62, 63, 64, 65, 66, 67, 68, 69, 70, 71, 72, 73, 74, 75, 76, 77, 78, 79, 80, 81, 82, 83, 84, 85, 86, 87, 88, 89, 90, 91, 92, 93, 94, 95, 96, 97, 98, 99, 100, 101, 102, 103, 104, 105, 106, 107, 108, 166, 167, 168, 169, 170, 171, 172, 154, 155, 156, 157, 158, 159, 160, 161, 162, 163, 164, 165, 173, 174, 175, 176, 177, 178, 179, 180, 181, 182, 183, 184, 185, 186, 187, 188, 189] (by decide +kernel) (by decide +kernel)
set_option maxRecDepth 20000 in
theorem gX4_answer_X4_judgementOf : GoodIn wsX4_answer (wsV RX4 103 RX4 yX4_judgementOf wsX4_judgementOf) := goodIn_app (goodIn_of _ (by decide +kernel)) ggX4_answer_X4_judgementOf
set_option maxRecDepth 20000 in
theorem ggX4_answer_X4_authorityOf : GoodIn wsX4_answer wsX4_authorityOf := goodIn_r _ [30, 166, 167, 168, 169, 170, 171, 172] (by decide +kernel) (by decide +kernel)
set_option maxRecDepth 20000 in
theorem gX4_answer_X4_authorityOf : GoodIn wsX4_answer (va_wsS RX4 107 yX4_authorityOf wsX4_authorityOf) := goodIn_app (goodIn_of _ (by decide +kernel)) ggX4_answer_X4_authorityOf
set_option maxRecDepth 20000 in
theorem ggX4_answer_X4_seeToday : GoodIn wsX4_answer wsX4_seeToday := goodIn_r _ [112, 3, 35, 77, 78, 79, 80, 43, 81, 82, 68, 69, 70, 71, 72, 40, 41, 42, 44, 45, 46, 47, 48, 49, 50, 51, 52, 53, 54, 55, 56, 57, 58, 59, 60, 61, 62, 7, 63, 154, 155, 156, 157, 158, 159, 160, 161, 162, 163, 164, 165, 173, 174, 175, 176, 177, 178, 179, 180, 181, 182, 183, 184, 185, 186] (by decide +kernel) (by decide +kernel)
set_option maxRecDepth 20000 in
theorem gX4_answer_X4_seeToday : GoodIn wsX4_answer (wsV RX4 111 RX4 yX4_seeToday wsX4_seeToday) := goodIn_app (goodIn_of _ (by decide +kernel)) ggX4_answer_X4_seeToday
set_option maxRecDepth 20000 in
theorem ggX4_answer_X4_letWait : GoodIn wsX4_answer wsX4_letWait := goodIn_r _ [116, 117, 118, 1, 154, 155, 156, 157, 158, 159, 160, 161, 162, 163, 164, 165] (by decide +kernel) (by decide +kernel)
set_option maxRecDepth 20000 in
theorem gX4_answer_X4_letWait : GoodIn wsX4_answer (wsV RX4 115 RX4 yX4_letWait wsX4_letWait) := goodIn_app (goodIn_of _ (by decide +kernel)) ggX4_answer_X4_letWait
set_option maxRecDepth 20000 in
theorem ggX4_answer_X4_appendSighted : GoodIn wsX4_answer wsX4_appendSighted := goodIn_ca (goodIn_ca (goodIn_r _ [122, 123, 124, 125, 126, 7, 127, 128, 129, 3, 35, 77, 130, 131, 132, 43, 133, 134, 72, 135, 82, 49, 45, 136, 137, 138, 139, 48, 47, 46, 51, 52, 53, 140, 141, 142, 143, 144, 50, 145, 146, 57, 147, 148, 149, 150, 151, 152, 61, 60, 59, 153, 154, 155, 156, 157, 158, 159, 160, 161, 162, 163, 164, 165, 173, 174, 175, 176, 177, 178, 179, 180, 181, 182, 183, 184, 185, 186] (by decide +kernel) (by decide +kernel)) (goodIn_sub (fun _ h => List.mem_cons_of_mem _ (List.mem_append_left _ (List.mem_append_right _ h))) (by decide +kernel))) (goodIn_sub (fun _ h => List.mem_cons_of_mem _ (List.mem_append_right _ h)) (by decide +kernel))
set_option maxRecDepth 20000 in
theorem gX4_answer_X4_appendSighted : GoodIn wsX4_answer (wsV RX4 118 RX4 yX4_appendSighted wsX4_appendSighted) := goodIn_app (goodIn_of _ (by decide +kernel)) ggX4_answer_X4_appendSighted
theorem dX4_answer_0 : decode cX4_answer 0 = .ok (.aload_n 0, 1) := by decide +kernel
theorem dX4_answer_1 : decode cX4_answer 1 = .ok (.iload 4, 2) := by decide +kernel
theorem dX4_answer_3 : decode cX4_answer 3 = .ok (.invokevirtual 99, 3) := by decide +kernel
theorem dX4_answer_6 : decode cX4_answer 6 = .ok (.astore 5, 2) := by decide +kernel
theorem dX4_answer_8 : decode cX4_answer 8 = .ok (.iload_n 1, 1) := by decide +kernel
theorem dX4_answer_9 : decode cX4_answer 9 = .ok (.iload_n 2, 1) := by decide +kernel
theorem dX4_answer_10 : decode cX4_answer 10 = .ok (.invokestatic 54, 3) := by decide +kernel
theorem dX4_answer_13 : decode cX4_answer 13 = .ok (.iload_n 3, 1) := by decide +kernel
theorem dX4_answer_14 : decode cX4_answer 14 = .ok (.invokestatic 39, 3) := by decide +kernel
theorem dX4_answer_17 : decode cX4_answer 17 = .ok (.aload_n 0, 1) := by decide +kernel
theorem dX4_answer_18 : decode cX4_answer 18 = .ok (.iload_n 1, 1) := by decide +kernel
theorem dX4_answer_19 : decode cX4_answer 19 = .ok (.iload_n 2, 1) := by decide +kernel
theorem dX4_answer_20 : decode cX4_answer 20 = .ok (.iload_n 3, 1) := by decide +kernel
theorem dX4_answer_21 : decode cX4_answer 21 = .ok (.aload 5, 2) := by decide +kernel
theorem dX4_answer_23 : decode cX4_answer 23 = .ok (.invokevirtual 103, 3) := by decide +kernel
theorem dX4_answer_26 : decode cX4_answer 26 = .ok (.istore 6, 2) := by decide +kernel
theorem dX4_answer_28 : decode cX4_answer 28 = .ok (.aload_n 0, 1) := by decide +kernel
theorem dX4_answer_29 : decode cX4_answer 29 = .ok (.iconst (-1), 1) := by decide +kernel
theorem dX4_answer_30 : decode cX4_answer 30 = .ok (.putfield 31, 3) := by decide +kernel
theorem dX4_answer_33 : decode cX4_answer 33 = .ok (.iload 6, 2) := by decide +kernel
theorem dX4_answer_35 : decode cX4_answer 35 = .ok (.iconst 1, 1) := by decide +kernel
theorem dX4_answer_36 : decode cX4_answer 36 = .ok (.if_icmp .eq 9, 3) := by decide +kernel
theorem dX4_answer_39 : decode cX4_answer 39 = .ok (.iload 6, 2) := by decide +kernel
theorem dX4_answer_41 : decode cX4_answer 41 = .ok (.iconst 2, 1) := by decide +kernel
theorem dX4_answer_42 : decode cX4_answer 42 = .ok (.if_icmp .ne 18, 3) := by decide +kernel
theorem dX4_answer_45 : decode cX4_answer 45 = .ok (.aload_n 0, 1) := by decide +kernel
theorem dX4_answer_46 : decode cX4_answer 46 = .ok (.iload_n 1, 1) := by decide +kernel
theorem dX4_answer_47 : decode cX4_answer 47 = .ok (.iload_n 2, 1) := by decide +kernel
theorem dX4_answer_48 : decode cX4_answer 48 = .ok (.iload_n 3, 1) := by decide +kernel
theorem dX4_answer_49 : decode cX4_answer 49 = .ok (.aload 5, 2) := by decide +kernel
theorem dX4_answer_51 : decode cX4_answer 51 = .ok (.invokestatic 107, 3) := by decide +kernel
theorem dX4_answer_54 : decode cX4_answer 54 = .ok (.invokevirtual 111, 3) := by decide +kernel
theorem dX4_answer_57 : decode cX4_answer 57 = .ok (.goto 62, 3) := by decide +kernel
theorem dX4_answer_60 : decode cX4_answer 60 = .ok (.iload 6, 2) := by decide +kernel
theorem dX4_answer_62 : decode cX4_answer 62 = .ok (.iconst 4, 1) := by decide +kernel
theorem dX4_answer_63 : decode cX4_answer 63 = .ok (.if_icmp .eq 17, 3) := by decide +kernel
theorem dX4_answer_66 : decode cX4_answer 66 = .ok (.iload 6, 2) := by decide +kernel
theorem dX4_answer_68 : decode cX4_answer 68 = .ok (.iconst 5, 1) := by decide +kernel
theorem dX4_answer_69 : decode cX4_answer 69 = .ok (.if_icmp .ne 21, 3) := by decide +kernel
theorem dX4_answer_72 : decode cX4_answer 72 = .ok (.aload_n 0, 1) := by decide +kernel
theorem dX4_answer_73 : decode cX4_answer 73 = .ok (.getfield 27, 3) := by decide +kernel
theorem dX4_answer_76 : decode cX4_answer 76 = .ok (.iconst 1, 1) := by decide +kernel
theorem dX4_answer_77 : decode cX4_answer 77 = .ok (.if_icmp .ne 13, 3) := by decide +kernel
theorem dX4_answer_80 : decode cX4_answer 80 = .ok (.aload_n 0, 1) := by decide +kernel
theorem dX4_answer_81 : decode cX4_answer 81 = .ok (.iload_n 1, 1) := by decide +kernel
theorem dX4_answer_82 : decode cX4_answer 82 = .ok (.iload_n 2, 1) := by decide +kernel
theorem dX4_answer_83 : decode cX4_answer 83 = .ok (.iload_n 3, 1) := by decide +kernel
theorem dX4_answer_84 : decode cX4_answer 84 = .ok (.invokevirtual 115, 3) := by decide +kernel
theorem dX4_answer_87 : decode cX4_answer 87 = .ok (.goto 32, 3) := by decide +kernel
theorem dX4_answer_90 : decode cX4_answer 90 = .ok (.iload 6, 2) := by decide +kernel
theorem dX4_answer_92 : decode cX4_answer 92 = .ok (.iconst 5, 1) := by decide +kernel
theorem dX4_answer_93 : decode cX4_answer 93 = .ok (.if_icmp .ne 26, 3) := by decide +kernel
theorem dX4_answer_96 : decode cX4_answer 96 = .ok (.aload_n 0, 1) := by decide +kernel
theorem dX4_answer_97 : decode cX4_answer 97 = .ok (.getfield 27, 3) := by decide +kernel
theorem dX4_answer_100 : decode cX4_answer 100 = .ok (.ifCond .ne 19, 3) := by decide +kernel
theorem dX4_answer_103 : decode cX4_answer 103 = .ok (.aload_n 0, 1) := by decide +kernel
theorem dX4_answer_104 : decode cX4_answer 104 = .ok (.getfield 47, 3) := by decide +kernel
theorem dX4_answer_107 : decode cX4_answer 107 = .ok (.bipush 40, 2) := by decide +kernel
theorem dX4_answer_109 : decode cX4_answer 109 = .ok (.if_icmp .ge 10, 3) := by decide +kernel
theorem dX4_answer_112 : decode cX4_answer 112 = .ok (.aload_n 0, 1) := by decide +kernel
theorem dX4_answer_113 : decode cX4_answer 113 = .ok (.iload_n 1, 1) := by decide +kernel
theorem dX4_answer_114 : decode cX4_answer 114 = .ok (.iload_n 2, 1) := by decide +kernel
theorem dX4_answer_115 : decode cX4_answer 115 = .ok (.iload_n 3, 1) := by decide +kernel
theorem dX4_answer_116 : decode cX4_answer 116 = .ok (.invokevirtual 118, 3) := by decide +kernel
theorem dX4_answer_119 : decode cX4_answer 119 = .ok (.iload 6, 2) := by decide +kernel
theorem dX4_answer_121 : decode cX4_answer 121 = .ok (.ireturn, 1) := by decide +kernel
set_option maxRecDepth 20000 in
theorem ggX4_confirm_X4_appendSighted : GoodIn wsX4_confirm wsX4_appendSighted := goodIn_ca (goodIn_ca (goodIn_r _ [11, 12, 13, 14, 15, 10, 16, 1, 2, 6, 17, 18, 19, 20, 21, 22, 23, 24, 25, 26, 27, 28, 29, 30, 31, 32, 33, 34, 35, 36, 37, 38, 39, 40, 41, 42, 43, 44, 45, 46, 47, 48, 49, 50, 51, 52, 53, 54, 55, 56, 57, 58, 59, 60, 61, 62, 63, 64, 65, 66, 67, 68, 69, 70, 71, 72, 73, 74, 75, 76, 77, 78, 79, 80, 81, 82, 83, 84] (by decide +kernel) (by decide +kernel)) (goodIn_sub (fun _ h => List.mem_cons_of_mem _ (List.mem_append_left _ (List.mem_append_right _ h))) (by decide +kernel))) (goodIn_sub (fun _ h => List.mem_cons_of_mem _ (List.mem_append_right _ h)) (by decide +kernel))
set_option maxRecDepth 20000 in
theorem gX4_confirm_X4_appendSighted : GoodIn wsX4_confirm (wsV RX4 118 RX4 yX4_appendSighted wsX4_appendSighted) := goodIn_app (goodIn_of _ (by decide +kernel)) ggX4_confirm_X4_appendSighted
theorem dX4_confirm_0 : decode cX4_confirm 0 = .ok (.aload_n 0, 1) := by decide +kernel
theorem dX4_confirm_1 : decode cX4_confirm 1 = .ok (.getfield 31, 3) := by decide +kernel
theorem dX4_confirm_4 : decode cX4_confirm 4 = .ok (.iconst (-1), 1) := by decide +kernel
theorem dX4_confirm_5 : decode cX4_confirm 5 = .ok (.if_icmp .ne 13, 3) := by decide +kernel
theorem dX4_confirm_8 : decode cX4_confirm 8 = .ok (.new 74, 3) := by decide +kernel
theorem dX4_confirm_11 : decode cX4_confirm 11 = .ok (.dup, 1) := by decide +kernel
theorem dX4_confirm_12 : decode cX4_confirm 12 = .ok (.ldc 121, 2) := by decide +kernel
theorem dX4_confirm_14 : decode cX4_confirm 14 = .ok (.invokespecial 78, 3) := by decide +kernel
theorem dX4_confirm_17 : decode cX4_confirm 17 = .ok (.athrow, 1) := by decide +kernel
theorem dX4_confirm_18 : decode cX4_confirm 18 = .ok (.aload_n 0, 1) := by decide +kernel
theorem dX4_confirm_19 : decode cX4_confirm 19 = .ok (.aload_n 0, 1) := by decide +kernel
theorem dX4_confirm_20 : decode cX4_confirm 20 = .ok (.getfield 123, 3) := by decide +kernel
theorem dX4_confirm_23 : decode cX4_confirm 23 = .ok (.aload_n 0, 1) := by decide +kernel
theorem dX4_confirm_24 : decode cX4_confirm 24 = .ok (.getfield 126, 3) := by decide +kernel
theorem dX4_confirm_27 : decode cX4_confirm 27 = .ok (.aload_n 0, 1) := by decide +kernel
theorem dX4_confirm_28 : decode cX4_confirm 28 = .ok (.getfield 31, 3) := by decide +kernel
theorem dX4_confirm_31 : decode cX4_confirm 31 = .ok (.invokevirtual 118, 3) := by decide +kernel
theorem dX4_confirm_34 : decode cX4_confirm 34 = .ok (.aload_n 0, 1) := by decide +kernel
theorem dX4_confirm_35 : decode cX4_confirm 35 = .ok (.iconst (-1), 1) := by decide +kernel
theorem dX4_confirm_36 : decode cX4_confirm 36 = .ok (.putfield 31, 3) := by decide +kernel
theorem dX4_confirm_39 : decode cX4_confirm 39 = .ok (.aload_n 0, 1) := by decide +kernel
theorem dX4_confirm_40 : decode cX4_confirm 40 = .ok (.getfield 47, 3) := by decide +kernel
theorem dX4_confirm_43 : decode cX4_confirm 43 = .ok (.iconst 1, 1) := by decide +kernel
theorem dX4_confirm_44 : decode cX4_confirm 44 = .ok (.isub, 1) := by decide +kernel
theorem dX4_confirm_45 : decode cX4_confirm 45 = .ok (.ireturn, 1) := by decide +kernel
set_option maxRecDepth 20000 in
theorem ggX4_turn_X4_requireNameAndPort : GoodIn wsX4_turn wsX4_requireNameAndPort := goodIn_ca (goodIn_r _ [8, 9, 10, 7, 11, 1, 2] (by decide +kernel) (by decide +kernel)) (goodIn_sub (fun _ h => List.mem_cons_of_mem _ (List.mem_append_left _ (List.mem_append_right _ h))) (by decide +kernel))
set_option maxRecDepth 20000 in
theorem gX4_turn_X4_requireNameAndPort : GoodIn wsX4_turn (va_wsS RX4 54 yX4_requireNameAndPort wsX4_requireNameAndPort) := goodIn_app (goodIn_of _ (by decide +kernel)) ggX4_turn_X4_requireNameAndPort
set_option maxRecDepth 20000 in
theorem ggX4_turn_X4_requireKey : GoodIn wsX4_turn wsX4_requireKey := goodIn_ca (goodIn_r _ [14, 9, 10, 7, 11, 1, 2] (by decide +kernel) (by decide +kernel)) (goodIn_sub (fun _ h => List.mem_cons_of_mem _ (List.mem_append_left _ (List.mem_append_right _ h))) (by decide +kernel))
set_option maxRecDepth 20000 in
theorem gX4_turn_X4_requireKey : GoodIn wsX4_turn (va_wsS RX4 39 yX4_requireKey wsX4_requireKey) := goodIn_app (goodIn_of _ (by decide +kernel)) ggX4_turn_X4_requireKey
set_option maxRecDepth 20000 in
theorem ggX4_turn_X4_requireWithin : GoodIn wsX4_turn wsX4_requireWithin := goodIn_ca (goodIn_r _ [11, 1, 2] (by decide +kernel) (by decide +kernel)) (goodIn_sub (fun _ h => List.mem_cons_of_mem _ (List.mem_append_left _ (List.mem_append_right _ h))) (by decide +kernel))
set_option maxRecDepth 20000 in
theorem gX4_turn_X4_requireWithin : GoodIn wsX4_turn (va_wsS RX4 35 yX4_requireWithin wsX4_requireWithin) := goodIn_app (goodIn_of _ (by decide +kernel)) ggX4_turn_X4_requireWithin
set_option maxRecDepth 20000 in
theorem ggX4_turn_X4_judgementByLines : GoodIn wsX4_turn wsX4_judgementByLines := goodIn_r _ [18, 19, 20, 21, 22, 23, 24, 25, 26, 27, 28, 29, 30, 31, 32, 33, 34, 35, 36, 37, 38, 39, 40, 41, 42, 43, 44, 45, 46, 47, 7, 48, 49, 50, 51, 52, 53, 54, 55, 56, 57, 58, 59, 60, 61, 62, 63, 64, 65, 66, 67, 68, 69, 70, 93, 94, 95, 96, 97, 98, 99, 100, 101, 102, 103, 104, 105, 106, 107, 108, 109, 110, 111, 112, 113, 114, 115, 116, 117, 118] (by decide +kernel) (by decide +kernel)
set_option maxRecDepth 20000 in
theorem gX4_turn_X4_judgementByLines : GoodIn wsX4_turn (wsV RX4 134 RX4 yX4_judgementByLines wsX4_judgementByLines) := goodIn_app (goodIn_of _ (by decide +kernel)) ggX4_turn_X4_judgementByLines
set_option maxRecDepth 20000 in
theorem ggX4_turn_X4_turnLines : GoodIn wsX4_turn wsX4_turnLines := goodIn_ca (goodIn_r _ [74, 19, 20, 62, 58, 59, 60, 7, 61, 63, 64, 65, 28, 66, 67, 25, 26, 27, 29, 30, 31, 32, 33, 34, 35, 36, 37, 38, 39, 40, 41, 42, 43, 44, 45, 46, 47, 48, 75, 76, 77, 78, 3, 4, 79, 80, 81, 82, 83, 57, 84, 85, 86, 87, 88, 89, 90, 91, 92, 93, 94, 95, 96, 97, 98, 99, 100, 101, 102, 103, 104, 105, 106, 107, 108, 109, 110, 111, 112, 113, 114, 115, 116, 117, 118] (by decide +kernel) (by decide +kernel)) (goodIn_sub (fun _ h => List.mem_cons_of_mem _ (List.mem_append_right _ h)) (by decide +kernel))
set_option maxRecDepth 20000 in
theorem gX4_turn_X4_turnLines : GoodIn wsX4_turn (wsV RX4 142 RX4 yX4_turnLines wsX4_turnLines) := goodIn_app (goodIn_of _ (by decide +kernel)) ggX4_turn_X4_turnLines
theorem dX4_turn_0 : decode cX4_turn 0 = .ok (.iload_n 1, 1) := by decide +kernel
theorem dX4_turn_1 : decode cX4_turn 1 = .ok (.iload_n 2, 1) := by decide +kernel
theorem dX4_turn_2 : decode cX4_turn 2 = .ok (.invokestatic 54, 3) := by decide +kernel
theorem dX4_turn_5 : decode cX4_turn 5 = .ok (.iload_n 3, 1) := by decide +kernel
theorem dX4_turn_6 : decode cX4_turn 6 = .ok (.invokestatic 39, 3) := by decide +kernel
theorem dX4_turn_9 : decode cX4_turn 9 = .ok (.iload 4, 2) := by decide +kernel
theorem dX4_turn_11 : decode cX4_turn 11 = .ok (.invokestatic 39, 3) := by decide +kernel
theorem dX4_turn_14 : decode cX4_turn 14 = .ok (.iload 5, 2) := by decide +kernel
theorem dX4_turn_16 : decode cX4_turn 16 = .ok (.iconst 0, 1) := by decide +kernel
theorem dX4_turn_17 : decode cX4_turn 17 = .ok (.sipush 1000, 3) := by decide +kernel
theorem dX4_turn_20 : decode cX4_turn 20 = .ok (.invokestatic 35, 3) := by decide +kernel
theorem dX4_turn_23 : decode cX4_turn 23 = .ok (.iload_n 3, 1) := by decide +kernel
theorem dX4_turn_24 : decode cX4_turn 24 = .ok (.iload 4, 2) := by decide +kernel
theorem dX4_turn_26 : decode cX4_turn 26 = .ok (.if_icmp .ne 13, 3) := by decide +kernel
theorem dX4_turn_29 : decode cX4_turn 29 = .ok (.new 129, 3) := by decide +kernel
theorem dX4_turn_32 : decode cX4_turn 32 = .ok (.dup, 1) := by decide +kernel
theorem dX4_turn_33 : decode cX4_turn 33 = .ok (.ldc 131, 2) := by decide +kernel
theorem dX4_turn_35 : decode cX4_turn 35 = .ok (.invokespecial 133, 3) := by decide +kernel
theorem dX4_turn_38 : decode cX4_turn 38 = .ok (.athrow, 1) := by decide +kernel
theorem dX4_turn_39 : decode cX4_turn 39 = .ok (.aload_n 0, 1) := by decide +kernel
theorem dX4_turn_40 : decode cX4_turn 40 = .ok (.iload_n 1, 1) := by decide +kernel
theorem dX4_turn_41 : decode cX4_turn 41 = .ok (.iload_n 2, 1) := by decide +kernel
theorem dX4_turn_42 : decode cX4_turn 42 = .ok (.iload_n 3, 1) := by decide +kernel
theorem dX4_turn_43 : decode cX4_turn 43 = .ok (.iconst (-1), 1) := by decide +kernel
theorem dX4_turn_44 : decode cX4_turn 44 = .ok (.invokevirtual 134, 3) := by decide +kernel
theorem dX4_turn_47 : decode cX4_turn 47 = .ok (.iconst 2, 1) := by decide +kernel
theorem dX4_turn_48 : decode cX4_turn 48 = .ok (.if_icmp .eq 13, 3) := by decide +kernel
theorem dX4_turn_51 : decode cX4_turn 51 = .ok (.new 74, 3) := by decide +kernel
theorem dX4_turn_54 : decode cX4_turn 54 = .ok (.dup, 1) := by decide +kernel
theorem dX4_turn_55 : decode cX4_turn 55 = .ok (.ldc 138, 2) := by decide +kernel
theorem dX4_turn_57 : decode cX4_turn 57 = .ok (.invokespecial 78, 3) := by decide +kernel
theorem dX4_turn_60 : decode cX4_turn 60 = .ok (.athrow, 1) := by decide +kernel
theorem dX4_turn_61 : decode cX4_turn 61 = .ok (.aload_n 0, 1) := by decide +kernel
theorem dX4_turn_62 : decode cX4_turn 62 = .ok (.iload_n 1, 1) := by decide +kernel
theorem dX4_turn_63 : decode cX4_turn 63 = .ok (.iload_n 2, 1) := by decide +kernel
theorem dX4_turn_64 : decode cX4_turn 64 = .ok (.iload 4, 2) := by decide +kernel
theorem dX4_turn_66 : decode cX4_turn 66 = .ok (.iconst (-1), 1) := by decide +kernel
theorem dX4_turn_67 : decode cX4_turn 67 = .ok (.invokevirtual 134, 3) := by decide +kernel
theorem dX4_turn_70 : decode cX4_turn 70 = .ok (.ifCond .ne 13, 3) := by decide +kernel
theorem dX4_turn_73 : decode cX4_turn 73 = .ok (.new 74, 3) := by decide +kernel
theorem dX4_turn_76 : decode cX4_turn 76 = .ok (.dup, 1) := by decide +kernel
theorem dX4_turn_77 : decode cX4_turn 77 = .ok (.ldc 140, 2) := by decide +kernel
theorem dX4_turn_79 : decode cX4_turn 79 = .ok (.invokespecial 78, 3) := by decide +kernel
theorem dX4_turn_82 : decode cX4_turn 82 = .ok (.athrow, 1) := by decide +kernel
theorem dX4_turn_83 : decode cX4_turn 83 = .ok (.aload_n 0, 1) := by decide +kernel
theorem dX4_turn_84 : decode cX4_turn 84 = .ok (.iload_n 1, 1) := by decide +kernel
theorem dX4_turn_85 : decode cX4_turn 85 = .ok (.iload_n 2, 1) := by decide +kernel
theorem dX4_turn_86 : decode cX4_turn 86 = .ok (.iload_n 3, 1) := by decide +kernel
theorem dX4_turn_87 : decode cX4_turn 87 = .ok (.iload 4, 2) := by decide +kernel
theorem dX4_turn_89 : decode cX4_turn 89 = .ok (.iload 5, 2) := by decide +kernel
theorem dX4_turn_91 : decode cX4_turn 91 = .ok (.invokevirtual 142, 3) := by decide +kernel
theorem dX4_turn_94 : decode cX4_turn 94 = .ok (.ireturn, 1) := by decide +kernel
set_option maxRecDepth 20000 in
theorem ggX4_pass_X4_requireWithin : GoodIn wsX4_pass wsX4_requireWithin := goodIn_ca (goodIn_r _ [7, 8, 9] (by decide +kernel) (by decide +kernel)) (goodIn_sub (fun _ h => List.mem_cons_of_mem _ (List.mem_append_right _ h)) (by decide +kernel))
set_option maxRecDepth 20000 in
theorem gX4_pass_X4_requireWithin : GoodIn wsX4_pass (va_wsS RX4 35 yX4_requireWithin wsX4_requireWithin) := goodIn_app (goodIn_of _ (by decide +kernel)) ggX4_pass_X4_requireWithin
theorem dX4_pass_0 : decode cX4_pass 0 = .ok (.iload_n 1, 1) := by decide +kernel
theorem dX4_pass_1 : decode cX4_pass 1 = .ok (.iconst 1, 1) := by decide +kernel
theorem dX4_pass_2 : decode cX4_pass 2 = .ok (.sipush 1000, 3) := by decide +kernel
theorem dX4_pass_5 : decode cX4_pass 5 = .ok (.invokestatic 35, 3) := by decide +kernel
theorem dX4_pass_8 : decode cX4_pass 8 = .ok (.aload_n 0, 1) := by decide +kernel
theorem dX4_pass_9 : decode cX4_pass 9 = .ok (.getfield 146, 3) := by decide +kernel
theorem dX4_pass_12 : decode cX4_pass 12 = .ok (.iload_n 1, 1) := by decide +kernel
theorem dX4_pass_13 : decode cX4_pass 13 = .ok (.iadd, 1) := by decide +kernel
theorem dX4_pass_14 : decode cX4_pass 14 = .ok (.sipush 5000, 3) := by decide +kernel
theorem dX4_pass_17 : decode cX4_pass 17 = .ok (.if_icmp .le 13, 3) := by decide +kernel
theorem dX4_pass_20 : decode cX4_pass 20 = .ok (.new 74, 3) := by decide +kernel
theorem dX4_pass_23 : decode cX4_pass 23 = .ok (.dup, 1) := by decide +kernel
theorem dX4_pass_24 : decode cX4_pass 24 = .ok (.ldc 149, 2) := by decide +kernel
theorem dX4_pass_26 : decode cX4_pass 26 = .ok (.invokespecial 78, 3) := by decide +kernel
theorem dX4_pass_29 : decode cX4_pass 29 = .ok (.athrow, 1) := by decide +kernel
theorem dX4_pass_30 : decode cX4_pass 30 = .ok (.aload_n 0, 1) := by decide +kernel
theorem dX4_pass_31 : decode cX4_pass 31 = .ok (.dup, 1) := by decide +kernel
theorem dX4_pass_32 : decode cX4_pass 32 = .ok (.getfield 146, 3) := by decide +kernel
theorem dX4_pass_35 : decode cX4_pass 35 = .ok (.iload_n 1, 1) := by decide +kernel
theorem dX4_pass_36 : decode cX4_pass 36 = .ok (.iadd, 1) := by decide +kernel
theorem dX4_pass_37 : decode cX4_pass 37 = .ok (.putfield 146, 3) := by decide +kernel
theorem dX4_pass_40 : decode cX4_pass 40 = .ok (.aload_n 0, 1) := by decide +kernel
theorem dX4_pass_41 : decode cX4_pass 41 = .ok (.getfield 146, 3) := by decide +kernel
theorem dX4_pass_44 : decode cX4_pass 44 = .ok (.ireturn, 1) := by decide +kernel
set_option maxRecDepth 20000 in
theorem ggX4_clean_X4_requireWithin : GoodIn wsX4_clean wsX4_requireWithin := goodIn_ca (goodIn_r _ [6, 7, 8] (by decide +kernel) (by decide +kernel)) (goodIn_sub (fun _ h => List.mem_cons_of_mem _ (List.mem_append_right _ h)) (by decide +kernel))
set_option maxRecDepth 20000 in
theorem gX4_clean_X4_requireWithin : GoodIn wsX4_clean (va_wsS RX4 35 yX4_requireWithin wsX4_requireWithin) := goodIn_app (goodIn_of _ (by decide +kernel)) ggX4_clean_X4_requireWithin
set_option maxRecDepth 20000 in
theorem ggX4_clean_X4_isToBeCleaned : GoodIn wsX4_clean wsX4_isToBeCleaned := goodIn_r _ [12, 13, 14, 15, 16, 17, 18, 19, 36, 37, 38, 39, 40, 41, 42, 43, 44, 45, 24, 25, 26, 27, 28, 29, 30, 31, 32, 33, 34, 35] (by decide +kernel) (by decide +kernel)
set_option maxRecDepth 20000 in
theorem gX4_clean_X4_isToBeCleaned : GoodIn wsX4_clean (wsV RX4 151 RX4 yX4_isToBeCleaned wsX4_isToBeCleaned) := goodIn_app (goodIn_of _ (by decide +kernel)) ggX4_clean_X4_isToBeCleaned
set_option maxRecDepth 20000 in
theorem ggX4_clean_X4_takeOut : GoodIn wsX4_clean wsX4_takeOut := goodIn_r _ [23, 2, 1, 24, 25, 26, 27, 28, 29, 30, 31, 32, 33, 34, 35] (by decide +kernel) (by decide +kernel)
set_option maxRecDepth 20000 in
theorem gX4_clean_X4_takeOut : GoodIn wsX4_clean (wsV RX4 68 RX4 yX4_takeOut wsX4_takeOut) := goodIn_app (goodIn_of _ (by decide +kernel)) ggX4_clean_X4_takeOut
theorem dX4_clean_0 : decode cX4_clean 0 = .ok (.iload_n 1, 1) := by decide +kernel
theorem dX4_clean_1 : decode cX4_clean 1 = .ok (.iconst 1, 1) := by decide +kernel
theorem dX4_clean_2 : decode cX4_clean 2 = .ok (.sipush 5000, 3) := by decide +kernel
theorem dX4_clean_5 : decode cX4_clean 5 = .ok (.invokestatic 35, 3) := by decide +kernel
theorem dX4_clean_8 : decode cX4_clean 8 = .ok (.iconst 0, 1) := by decide +kernel
theorem dX4_clean_9 : decode cX4_clean 9 = .ok (.istore_n 2, 1) := by decide +kernel
theorem dX4_clean_10 : decode cX4_clean 10 = .ok (.aload_n 0, 1) := by decide +kernel
theorem dX4_clean_11 : decode cX4_clean 11 = .ok (.getfield 47, 3) := by decide +kernel
theorem dX4_clean_14 : decode cX4_clean 14 = .ok (.iconst 1, 1) := by decide +kernel
theorem dX4_clean_15 : decode cX4_clean 15 = .ok (.isub, 1) := by decide +kernel
theorem dX4_clean_16 : decode cX4_clean 16 = .ok (.istore_n 3, 1) := by decide +kernel
theorem dX4_clean_17 : decode cX4_clean 17 = .ok (.iload_n 3, 1) := by decide +kernel
theorem dX4_clean_18 : decode cX4_clean 18 = .ok (.ifCond .lt 31, 3) := by decide +kernel
theorem dX4_clean_21 : decode cX4_clean 21 = .ok (.aload_n 0, 1) := by decide +kernel
theorem dX4_clean_22 : decode cX4_clean 22 = .ok (.aload_n 0, 1) := by decide +kernel
theorem dX4_clean_23 : decode cX4_clean 23 = .ok (.getfield 11, 3) := by decide +kernel
theorem dX4_clean_26 : decode cX4_clean 26 = .ok (.iload_n 3, 1) := by decide +kernel
theorem dX4_clean_27 : decode cX4_clean 27 = .ok (.aaload, 1) := by decide +kernel
theorem dX4_clean_28 : decode cX4_clean 28 = .ok (.iload_n 1, 1) := by decide +kernel
theorem dX4_clean_29 : decode cX4_clean 29 = .ok (.invokevirtual 151, 3) := by decide +kernel
theorem dX4_clean_32 : decode cX4_clean 32 = .ok (.ifCond .eq 11, 3) := by decide +kernel
theorem dX4_clean_35 : decode cX4_clean 35 = .ok (.aload_n 0, 1) := by decide +kernel
theorem dX4_clean_36 : decode cX4_clean 36 = .ok (.iload_n 3, 1) := by decide +kernel
theorem dX4_clean_37 : decode cX4_clean 37 = .ok (.invokevirtual 68, 3) := by decide +kernel
theorem dX4_clean_40 : decode cX4_clean 40 = .ok (.iinc 2 1, 3) := by decide +kernel
theorem dX4_clean_43 : decode cX4_clean 43 = .ok (.iinc 3 (-1), 3) := by decide +kernel
theorem dX4_clean_46 : decode cX4_clean 46 = .ok (.goto (-29), 3) := by decide +kernel
theorem dX4_clean_49 : decode cX4_clean 49 = .ok (.iload_n 2, 1) := by decide +kernel
theorem dX4_clean_50 : decode cX4_clean 50 = .ok (.ireturn, 1) := by decide +kernel
set_option maxRecDepth 20000 in
theorem ggX4_judge_X4_certificateAt : GoodIn wsX4_judge wsX4_certificateAt := goodIn_ca (goodIn_r _ [5, 6, 7, 8, 9, 107, 108, 109, 110, 111, 112, 113, 114, 115, 116, 117, 118] (by decide +kernel) (by decide +kernel)) (goodIn_sub (fun _ h => List.mem_cons_of_mem _ (List.mem_append_left _ (List.mem_append_right _ h))) (by decide +kernel))
set_option maxRecDepth 20000 in
theorem gX4_judge_X4_certificateAt : GoodIn wsX4_judge (wsV RX4 99 RX4 yX4_certificateAt wsX4_certificateAt) := goodIn_app (goodIn_of _ (by decide +kernel)) ggX4_judge_X4_certificateAt
set_option maxRecDepth 20000 in
theorem ggX4_judge_X4_requireNameAndPort : GoodIn wsX4_judge wsX4_requireNameAndPort := goodIn_ca (goodIn_r _ [12, 13, 14, 4, 15, 16, 17] (by decide +kernel) (by decide +kernel)) (goodIn_sub (fun _ h => List.mem_cons_of_mem _ (List.mem_append_right _ h)) (by decide +kernel))
set_option maxRecDepth 20000 in
theorem gX4_judge_X4_requireNameAndPort : GoodIn wsX4_judge (va_wsS RX4 54 yX4_requireNameAndPort wsX4_requireNameAndPort) := goodIn_app (goodIn_of _ (by decide +kernel)) ggX4_judge_X4_requireNameAndPort
set_option maxRecDepth 20000 in
theorem ggX4_judge_X4_requireKey : GoodIn wsX4_judge wsX4_requireKey := goodIn_ca (goodIn_r _ [20, 13, 14, 4, 15, 16, 17] (by decide +kernel) (by decide +kernel)) (goodIn_sub (fun _ h => List.mem_cons_of_mem _ (List.mem_append_right _ h)) (by decide +kernel))
set_option maxRecDepth 20000 in
theorem gX4_judge_X4_requireKey : GoodIn wsX4_judge (va_wsS RX4 39 yX4_requireKey wsX4_requireKey) := goodIn_app (goodIn_of _ (by decide +kernel)) ggX4_judge_X4_requireKey
set_option maxRecDepth 20000 in
theorem ggX4_judge_X4_judgementOf : GoodIn wsX4_judge wsX4_judgementOf := goodIn_r _ [24, 25, 26, 4, 27, 28, 29, 30, 31, 32, 33, 34, 35, 36, 37, 38, 39, 40, 41, 42, 43, 44, 45, 46, 47, 48, 49, 50, 51, 52, 53, 54, 55, 56, 57, 58, 59, 60, 61, 62, 63, 64, 65, 66, 67, 68, 69, 70, 71, 72, 73, 74, 75, 76, 77, 78, 79, 80, 81, 82, 83, 84, 85, 86, 87, 88, 89, 90, 91, 92, 93, 94, 95, 96, 97, 98, 99, 100, 101, 102, 103, 104, 105, 106, 119, 120, 121, 122, 123, 124, 125, 107, 108, 109, 110, 111, 112, 113, 114, 115, 116, 117, 118, 126, 127, 128, 129, 130, 131, 132, 133, 134, 135, 136, 137, 138, 139, 140, 141, 142] (by decide +kernel) (by decide +kernel)
set_option maxRecDepth 20000 in
theorem gX4_judge_X4_judgementOf : GoodIn wsX4_judge (wsV RX4 103 RX4 yX4_judgementOf wsX4_judgementOf) := goodIn_app (goodIn_of _ (by decide +kernel)) ggX4_judge_X4_judgementOf
theorem dX4_judge_0 : decode cX4_judge 0 = .ok (.aload_n 0, 1) := by decide +kernel
theorem dX4_judge_1 : decode cX4_judge 1 = .ok (.iload 4, 2) := by decide +kernel
theorem dX4_judge_3 : decode cX4_judge 3 = .ok (.invokevirtual 99, 3) := by decide +kernel
theorem dX4_judge_6 : decode cX4_judge 6 = .ok (.astore 5, 2) := by decide +kernel
theorem dX4_judge_8 : decode cX4_judge 8 = .ok (.iload_n 1, 1) := by decide +kernel
theorem dX4_judge_9 : decode cX4_judge 9 = .ok (.iload_n 2, 1) := by decide +kernel
theorem dX4_judge_10 : decode cX4_judge 10 = .ok (.invokestatic 54, 3) := by decide +kernel
theorem dX4_judge_13 : decode cX4_judge 13 = .ok (.iload_n 3, 1) := by decide +kernel
theorem dX4_judge_14 : decode cX4_judge 14 = .ok (.invokestatic 39, 3) := by decide +kernel
theorem dX4_judge_17 : decode cX4_judge 17 = .ok (.aload_n 0, 1) := by decide +kernel
theorem dX4_judge_18 : decode cX4_judge 18 = .ok (.iload_n 1, 1) := by decide +kernel
theorem dX4_judge_19 : decode cX4_judge 19 = .ok (.iload_n 2, 1) := by decide +kernel
theorem dX4_judge_20 : decode cX4_judge 20 = .ok (.iload_n 3, 1) := by decide +kernel
theorem dX4_judge_21 : decode cX4_judge 21 = .ok (.aload 5, 2) := by decide +kernel
theorem dX4_judge_23 : decode cX4_judge 23 = .ok (.invokevirtual 103, 3) := by decide +kernel
theorem dX4_judge_26 : decode cX4_judge 26 = .ok (.ireturn, 1) := by decide +kernel
set_option maxRecDepth 20000 in
theorem ggX4_judgeByReading_X4_requireNameAndPort : GoodIn wsX4_judgeByReading wsX4_requireNameAndPort := goodIn_ca (goodIn_r _ [4, 5, 6, 3, 7, 8, 9] (by decide +kernel) (by decide +kernel)) (goodIn_sub (fun _ h => List.mem_cons_of_mem _ (List.mem_append_right _ h)) (by decide +kernel))
set_option maxRecDepth 20000 in
theorem gX4_judgeByReading_X4_requireNameAndPort : GoodIn wsX4_judgeByReading (va_wsS RX4 54 yX4_requireNameAndPort wsX4_requireNameAndPort) := goodIn_app (goodIn_of _ (by decide +kernel)) ggX4_judgeByReading_X4_requireNameAndPort
set_option maxRecDepth 20000 in
theorem ggX4_judgeByReading_X4_requireKey : GoodIn wsX4_judgeByReading wsX4_requireKey := goodIn_ca (goodIn_r _ [12, 5, 6, 3, 7, 8, 9] (by decide +kernel) (by decide +kernel)) (goodIn_sub (fun _ h => List.mem_cons_of_mem _ (List.mem_append_right _ h)) (by decide +kernel))
set_option maxRecDepth 20000 in
theorem gX4_judgeByReading_X4_requireKey : GoodIn wsX4_judgeByReading (va_wsS RX4 39 yX4_requireKey wsX4_requireKey) := goodIn_app (goodIn_of _ (by decide +kernel)) ggX4_judgeByReading_X4_requireKey
set_option maxRecDepth 20000 in
theorem ggX4_judgeByReading_X4_judgementByLines : GoodIn wsX4_judgeByReading wsX4_judgementByLines := goodIn_r _ [16, 17, 18, 19, 20, 21, 22, 23, 24, 25, 26, 27, 28, 29, 30, 31, 32, 33, 34, 35, 36, 37, 38, 39, 40, 41, 42, 43, 44, 45, 3, 46, 47, 48, 49, 50, 51, 52, 53, 54, 55, 56, 57, 58, 59, 60, 61, 62, 63, 64, 65, 66, 67, 68, 69, 70, 71, 72, 73, 74, 75, 76, 77, 78, 79, 80, 81, 82, 83, 84, 85, 86, 87, 88, 89, 90, 91, 92, 93, 94] (by decide +kernel) (by decide +kernel)
set_option maxRecDepth 20000 in
theorem gX4_judgeByReading_X4_judgementByLines : GoodIn wsX4_judgeByReading (wsV RX4 134 RX4 yX4_judgementByLines wsX4_judgementByLines) := goodIn_app (goodIn_of _ (by decide +kernel)) ggX4_judgeByReading_X4_judgementByLines
theorem dX4_judgeByReading_0 : decode cX4_judgeByReading 0 = .ok (.iload_n 1, 1) := by decide +kernel
theorem dX4_judgeByReading_1 : decode cX4_judgeByReading 1 = .ok (.iload_n 2, 1) := by decide +kernel
theorem dX4_judgeByReading_2 : decode cX4_judgeByReading 2 = .ok (.invokestatic 54, 3) := by decide +kernel
theorem dX4_judgeByReading_5 : decode cX4_judgeByReading 5 = .ok (.iload_n 3, 1) := by decide +kernel
theorem dX4_judgeByReading_6 : decode cX4_judgeByReading 6 = .ok (.invokestatic 39, 3) := by decide +kernel
theorem dX4_judgeByReading_9 : decode cX4_judgeByReading 9 = .ok (.aload_n 0, 1) := by decide +kernel
theorem dX4_judgeByReading_10 : decode cX4_judgeByReading 10 = .ok (.iload_n 1, 1) := by decide +kernel
theorem dX4_judgeByReading_11 : decode cX4_judgeByReading 11 = .ok (.iload_n 2, 1) := by decide +kernel
theorem dX4_judgeByReading_12 : decode cX4_judgeByReading 12 = .ok (.iload_n 3, 1) := by decide +kernel
theorem dX4_judgeByReading_13 : decode cX4_judgeByReading 13 = .ok (.iconst (-1), 1) := by decide +kernel
theorem dX4_judgeByReading_14 : decode cX4_judgeByReading 14 = .ok (.invokevirtual 134, 3) := by decide +kernel
theorem dX4_judgeByReading_17 : decode cX4_judgeByReading 17 = .ok (.ireturn, 1) := by decide +kernel
theorem dX4_day_0 : decode cX4_day 0 = .ok (.aload_n 0, 1) := by decide +kernel
theorem dX4_day_1 : decode cX4_day 1 = .ok (.getfield 146, 3) := by decide +kernel
theorem dX4_day_4 : decode cX4_day 4 = .ok (.ireturn, 1) := by decide +kernel
theorem dX4_lines_0 : decode cX4_lines 0 = .ok (.aload_n 0, 1) := by decide +kernel
theorem dX4_lines_1 : decode cX4_lines 1 = .ok (.getfield 47, 3) := by decide +kernel
theorem dX4_lines_4 : decode cX4_lines 4 = .ok (.ireturn, 1) := by decide +kernel
set_option maxRecDepth 20000 in
theorem ggX4_keyOf_X4_lineAt : GoodIn wsX4_keyOf wsX4_lineAt := goodIn_ca (goodIn_r _ [5, 6, 7, 8, 9, 20, 21, 22, 23, 24, 25, 26, 27, 28, 29, 30, 31] (by decide +kernel) (by decide +kernel)) (goodIn_sub (fun _ h => List.mem_cons_of_mem _ (List.mem_append_right _ h)) (by decide +kernel))
set_option maxRecDepth 20000 in
theorem gX4_keyOf_X4_lineAt : GoodIn wsX4_keyOf (wsV RX4 50 RX4 yX4_lineAt wsX4_lineAt) := goodIn_app (goodIn_of _ (by decide +kernel)) ggX4_keyOf_X4_lineAt
theorem dX4_keyOf_0 : decode cX4_keyOf 0 = .ok (.aload_n 0, 1) := by decide +kernel
theorem dX4_keyOf_1 : decode cX4_keyOf 1 = .ok (.iload_n 1, 1) := by decide +kernel
theorem dX4_keyOf_2 : decode cX4_keyOf 2 = .ok (.invokevirtual 50, 3) := by decide +kernel
theorem dX4_keyOf_5 : decode cX4_keyOf 5 = .ok (.astore_n 2, 1) := by decide +kernel
theorem dX4_keyOf_6 : decode cX4_keyOf 6 = .ok (.sipush 1000, 3) := by decide +kernel
theorem dX4_keyOf_9 : decode cX4_keyOf 9 = .ok (.aload_n 2, 1) := by decide +kernel
theorem dX4_keyOf_10 : decode cX4_keyOf 10 = .ok (.getfield 155, 3) := by decide +kernel
theorem dX4_keyOf_13 : decode cX4_keyOf 13 = .ok (.imul, 1) := by decide +kernel
theorem dX4_keyOf_14 : decode cX4_keyOf 14 = .ok (.aload_n 2, 1) := by decide +kernel
theorem dX4_keyOf_15 : decode cX4_keyOf 15 = .ok (.getfield 65, 3) := by decide +kernel
theorem dX4_keyOf_18 : decode cX4_keyOf 18 = .ok (.iadd, 1) := by decide +kernel
theorem dX4_keyOf_19 : decode cX4_keyOf 19 = .ok (.ireturn, 1) := by decide +kernel
set_option maxRecDepth 20000 in
theorem ggX4_seen_X4_lineAt : GoodIn wsX4_seen wsX4_lineAt := goodIn_ca (goodIn_r _ [5, 6, 7, 8, 9, 20, 21, 22, 23, 24, 25, 26, 27, 28, 29, 30, 31] (by decide +kernel) (by decide +kernel)) (goodIn_sub (fun _ h => List.mem_cons_of_mem _ (List.mem_append_right _ h)) (by decide +kernel))
set_option maxRecDepth 20000 in
theorem gX4_seen_X4_lineAt : GoodIn wsX4_seen (wsV RX4 50 RX4 yX4_lineAt wsX4_lineAt) := goodIn_app (goodIn_of _ (by decide +kernel)) ggX4_seen_X4_lineAt
theorem dX4_seen_0 : decode cX4_seen 0 = .ok (.aload_n 0, 1) := by decide +kernel
theorem dX4_seen_1 : decode cX4_seen 1 = .ok (.iload_n 1, 1) := by decide +kernel
theorem dX4_seen_2 : decode cX4_seen 2 = .ok (.invokevirtual 50, 3) := by decide +kernel
theorem dX4_seen_5 : decode cX4_seen 5 = .ok (.getfield 158, 3) := by decide +kernel
theorem dX4_seen_8 : decode cX4_seen 8 = .ok (.ireturn, 1) := by decide +kernel
set_option maxRecDepth 20000 in
theorem ggX4_end_X4_lineAt : GoodIn wsX4_end wsX4_lineAt := goodIn_ca (goodIn_r _ [5, 6, 7, 8, 9, 20, 21, 22, 23, 24, 25, 26, 27, 28, 29, 30, 31] (by decide +kernel) (by decide +kernel)) (goodIn_sub (fun _ h => List.mem_cons_of_mem _ (List.mem_append_right _ h)) (by decide +kernel))
set_option maxRecDepth 20000 in
theorem gX4_end_X4_lineAt : GoodIn wsX4_end (wsV RX4 50 RX4 yX4_lineAt wsX4_lineAt) := goodIn_app (goodIn_of _ (by decide +kernel)) ggX4_end_X4_lineAt
theorem dX4_end_0 : decode cX4_end 0 = .ok (.aload_n 0, 1) := by decide +kernel
theorem dX4_end_1 : decode cX4_end 1 = .ok (.iload_n 1, 1) := by decide +kernel
theorem dX4_end_2 : decode cX4_end 2 = .ok (.invokevirtual 50, 3) := by decide +kernel
theorem dX4_end_5 : decode cX4_end 5 = .ok (.getfield 161, 3) := by decide +kernel
theorem dX4_end_8 : decode cX4_end 8 = .ok (.ireturn, 1) := by decide +kernel
set_option maxRecDepth 20000 in
theorem ggX4_matches_X4_lineAt : GoodIn wsX4_matches wsX4_lineAt := goodIn_ca (goodIn_r _ [5, 6, 7, 8, 9, 42, 43, 44, 45, 46, 47, 48, 49, 50, 51, 52, 53] (by decide +kernel) (by decide +kernel)) (goodIn_sub (fun _ h => List.mem_cons_of_mem _ (List.mem_append_left _ (List.mem_append_right _ h))) (by decide +kernel))
set_option maxRecDepth 20000 in
theorem gX4_matches_X4_lineAt : GoodIn wsX4_matches (wsV RX4 50 RX4 yX4_lineAt wsX4_lineAt) := goodIn_app (goodIn_of _ (by decide +kernel)) ggX4_matches_X4_lineAt
set_option maxRecDepth 20000 in
theorem ggX4_matches_X4_requireNameAndPort : GoodIn wsX4_matches wsX4_requireNameAndPort := goodIn_ca (goodIn_r _ [12, 13, 14, 4, 15, 16, 17] (by decide +kernel) (by decide +kernel)) (goodIn_sub (fun _ h => List.mem_cons_of_mem _ (List.mem_append_right _ h)) (by decide +kernel))
set_option maxRecDepth 20000 in
theorem gX4_matches_X4_requireNameAndPort : GoodIn wsX4_matches (va_wsS RX4 54 yX4_requireNameAndPort wsX4_requireNameAndPort) := goodIn_app (goodIn_of _ (by decide +kernel)) ggX4_matches_X4_requireNameAndPort
set_option maxRecDepth 20000 in
theorem ggX4_matches_X1_covers : GoodIn wsX4_matches wsX1_covers := goodIn_r _ [22, 23, 24, 25, 26, 27, 28, 29, 30, 21, 31, 32, 33, 34, 35, 36, 37, 38, 39, 40, 4, 41, 54, 55, 56, 57, 58, 59, 60, 61, 62, 63, 64, 65, 66, 67] (by decide +kernel) (by decide +kernel)
set_option maxRecDepth 20000 in
theorem gX4_matches_X1_covers : GoodIn wsX4_matches (wsV RX4 164 RX1 yX1_covers wsX1_covers) := goodIn_app (goodIn_of _ (by decide +kernel)) ggX4_matches_X1_covers
theorem dX4_matches_0 : decode cX4_matches 0 = .ok (.aload_n 0, 1) := by decide +kernel
theorem dX4_matches_1 : decode cX4_matches 1 = .ok (.iload_n 1, 1) := by decide +kernel
theorem dX4_matches_2 : decode cX4_matches 2 = .ok (.invokevirtual 50, 3) := by decide +kernel
theorem dX4_matches_5 : decode cX4_matches 5 = .ok (.astore 4, 2) := by decide +kernel
theorem dX4_matches_7 : decode cX4_matches 7 = .ok (.iload_n 2, 1) := by decide +kernel
theorem dX4_matches_8 : decode cX4_matches 8 = .ok (.iload_n 3, 1) := by decide +kernel
theorem dX4_matches_9 : decode cX4_matches 9 = .ok (.invokestatic 54, 3) := by decide +kernel
theorem dX4_matches_12 : decode cX4_matches 12 = .ok (.aload 4, 2) := by decide +kernel
theorem dX4_matches_14 : decode cX4_matches 14 = .ok (.iload_n 2, 1) := by decide +kernel
theorem dX4_matches_15 : decode cX4_matches 15 = .ok (.iload_n 3, 1) := by decide +kernel
theorem dX4_matches_16 : decode cX4_matches 16 = .ok (.invokevirtual 164, 3) := by decide +kernel
theorem dX4_matches_19 : decode cX4_matches 19 = .ok (.ireturn, 1) := by decide +kernel
set_option maxRecDepth 20000 in
theorem ggX4_find_X4_requireNameAndPort : GoodIn wsX4_find wsX4_requireNameAndPort := goodIn_ca (goodIn_r _ [6, 7, 8, 5, 9, 10, 11] (by decide +kernel) (by decide +kernel)) (goodIn_sub (fun _ h => List.mem_cons_of_mem _ (List.mem_append_right _ h)) (by decide +kernel))
set_option maxRecDepth 20000 in
theorem gX4_find_X4_requireNameAndPort : GoodIn wsX4_find (va_wsS RX4 54 yX4_requireNameAndPort wsX4_requireNameAndPort) := goodIn_app (goodIn_of _ (by decide +kernel)) ggX4_find_X4_requireNameAndPort
set_option maxRecDepth 20000 in
theorem ggX4_find_X1_covers : GoodIn wsX4_find wsX1_covers := goodIn_r _ [16, 17, 18, 19, 20, 21, 22, 23, 24, 15, 25, 26, 27, 28, 29, 30, 31, 32, 33, 34, 5, 35, 48, 49, 50, 51, 52, 53, 54, 55, 56, 57, 58, 59, 60, 61] (by decide +kernel) (by decide +kernel)
set_option maxRecDepth 20000 in
theorem gX4_find_X1_covers : GoodIn wsX4_find (wsV RX4 164 RX1 yX1_covers wsX1_covers) := goodIn_app (goodIn_of _ (by decide +kernel)) ggX4_find_X1_covers
theorem dX4_find_0 : decode cX4_find 0 = .ok (.iload_n 1, 1) := by decide +kernel
theorem dX4_find_1 : decode cX4_find 1 = .ok (.iload_n 2, 1) := by decide +kernel
theorem dX4_find_2 : decode cX4_find 2 = .ok (.invokestatic 54, 3) := by decide +kernel
theorem dX4_find_5 : decode cX4_find 5 = .ok (.iconst 0, 1) := by decide +kernel
theorem dX4_find_6 : decode cX4_find 6 = .ok (.istore_n 3, 1) := by decide +kernel
theorem dX4_find_7 : decode cX4_find 7 = .ok (.iload_n 3, 1) := by decide +kernel
theorem dX4_find_8 : decode cX4_find 8 = .ok (.aload_n 0, 1) := by decide +kernel
theorem dX4_find_9 : decode cX4_find 9 = .ok (.getfield 47, 3) := by decide +kernel
theorem dX4_find_12 : decode cX4_find 12 = .ok (.if_icmp .ge 25, 3) := by decide +kernel
theorem dX4_find_15 : decode cX4_find 15 = .ok (.aload_n 0, 1) := by decide +kernel
theorem dX4_find_16 : decode cX4_find 16 = .ok (.getfield 11, 3) := by decide +kernel
theorem dX4_find_19 : decode cX4_find 19 = .ok (.iload_n 3, 1) := by decide +kernel
theorem dX4_find_20 : decode cX4_find 20 = .ok (.aaload, 1) := by decide +kernel
theorem dX4_find_21 : decode cX4_find 21 = .ok (.iload_n 1, 1) := by decide +kernel
theorem dX4_find_22 : decode cX4_find 22 = .ok (.iload_n 2, 1) := by decide +kernel
theorem dX4_find_23 : decode cX4_find 23 = .ok (.invokevirtual 164, 3) := by decide +kernel
theorem dX4_find_26 : decode cX4_find 26 = .ok (.ifCond .eq 5, 3) := by decide +kernel
theorem dX4_find_29 : decode cX4_find 29 = .ok (.iload_n 3, 1) := by decide +kernel
theorem dX4_find_30 : decode cX4_find 30 = .ok (.ireturn, 1) := by decide +kernel
theorem dX4_find_31 : decode cX4_find 31 = .ok (.iinc 3 1, 3) := by decide +kernel
theorem dX4_find_34 : decode cX4_find 34 = .ok (.goto (-27), 3) := by decide +kernel
theorem dX4_find_37 : decode cX4_find 37 = .ok (.iconst (-1), 1) := by decide +kernel
theorem dX4_find_38 : decode cX4_find 38 = .ok (.ireturn, 1) := by decide +kernel
set_option maxRecDepth 20000 in
theorem ggX4_linesOf_X4_requireKey : GoodIn wsX4_linesOf wsX4_requireKey := goodIn_ca (goodIn_r _ [6, 7, 8, 5, 9, 10, 11] (by decide +kernel) (by decide +kernel)) (goodIn_sub (fun _ h => List.mem_cons_of_mem _ (List.mem_append_right _ h)) (by decide +kernel))
set_option maxRecDepth 20000 in
theorem gX4_linesOf_X4_requireKey : GoodIn wsX4_linesOf (va_wsS RX4 39 yX4_requireKey wsX4_requireKey) := goodIn_app (goodIn_of _ (by decide +kernel)) ggX4_linesOf_X4_requireKey
theorem dX4_linesOf_0 : decode cX4_linesOf 0 = .ok (.iload_n 1, 1) := by decide +kernel
theorem dX4_linesOf_1 : decode cX4_linesOf 1 = .ok (.invokestatic 39, 3) := by decide +kernel
theorem dX4_linesOf_4 : decode cX4_linesOf 4 = .ok (.lconst 0, 1) := by decide +kernel
theorem dX4_linesOf_5 : decode cX4_linesOf 5 = .ok (.lstore_n 2, 1) := by decide +kernel
theorem dX4_linesOf_6 : decode cX4_linesOf 6 = .ok (.iconst 0, 1) := by decide +kernel
theorem dX4_linesOf_7 : decode cX4_linesOf 7 = .ok (.istore 4, 2) := by decide +kernel
theorem dX4_linesOf_9 : decode cX4_linesOf 9 = .ok (.iload 4, 2) := by decide +kernel
theorem dX4_linesOf_11 : decode cX4_linesOf 11 = .ok (.aload_n 0, 1) := by decide +kernel
theorem dX4_linesOf_12 : decode cX4_linesOf 12 = .ok (.getfield 47, 3) := by decide +kernel
theorem dX4_linesOf_15 : decode cX4_linesOf 15 = .ok (.if_icmp .ge 30, 3) := by decide +kernel
theorem dX4_linesOf_18 : decode cX4_linesOf 18 = .ok (.aload_n 0, 1) := by decide +kernel
theorem dX4_linesOf_19 : decode cX4_linesOf 19 = .ok (.getfield 11, 3) := by decide +kernel
theorem dX4_linesOf_22 : decode cX4_linesOf 22 = .ok (.iload 4, 2) := by decide +kernel
theorem dX4_linesOf_24 : decode cX4_linesOf 24 = .ok (.aaload, 1) := by decide +kernel
theorem dX4_linesOf_25 : decode cX4_linesOf 25 = .ok (.getfield 65, 3) := by decide +kernel
theorem dX4_linesOf_28 : decode cX4_linesOf 28 = .ok (.iload_n 1, 1) := by decide +kernel
theorem dX4_linesOf_29 : decode cX4_linesOf 29 = .ok (.if_icmp .ne 10, 3) := by decide +kernel
theorem dX4_linesOf_32 : decode cX4_linesOf 32 = .ok (.lload_n 2, 1) := by decide +kernel
theorem dX4_linesOf_33 : decode cX4_linesOf 33 = .ok (.lconst 1, 1) := by decide +kernel
theorem dX4_linesOf_34 : decode cX4_linesOf 34 = .ok (.iload 4, 2) := by decide +kernel
theorem dX4_linesOf_36 : decode cX4_linesOf 36 = .ok (.lshl, 1) := by decide +kernel
theorem dX4_linesOf_37 : decode cX4_linesOf 37 = .ok (.lor, 1) := by decide +kernel
theorem dX4_linesOf_38 : decode cX4_linesOf 38 = .ok (.lstore_n 2, 1) := by decide +kernel
theorem dX4_linesOf_39 : decode cX4_linesOf 39 = .ok (.iinc 4 1, 3) := by decide +kernel
theorem dX4_linesOf_42 : decode cX4_linesOf 42 = .ok (.goto (-33), 3) := by decide +kernel
theorem dX4_linesOf_45 : decode cX4_linesOf 45 = .ok (.lload_n 2, 1) := by decide +kernel
theorem dX4_linesOf_46 : decode cX4_linesOf 46 = .ok (.lreturn, 1) := by decide +kernel
theorem dX4_waiting_0 : decode cX4_waiting 0 = .ok (.aload_n 0, 1) := by decide +kernel
theorem dX4_waiting_1 : decode cX4_waiting 1 = .ok (.getfield 31, 3) := by decide +kernel
theorem dX4_waiting_4 : decode cX4_waiting 4 = .ok (.ireturn, 1) := by decide +kernel
theorem dX4_requireWithin_0 : decode cX4_requireWithin 0 = .ok (.iload_n 0, 1) := by decide +kernel
theorem dX4_requireWithin_1 : decode cX4_requireWithin 1 = .ok (.iload_n 1, 1) := by decide +kernel
theorem dX4_requireWithin_2 : decode cX4_requireWithin 2 = .ok (.if_icmp .lt 8, 3) := by decide +kernel
theorem dX4_requireWithin_5 : decode cX4_requireWithin 5 = .ok (.iload_n 0, 1) := by decide +kernel
theorem dX4_requireWithin_6 : decode cX4_requireWithin 6 = .ok (.iload_n 2, 1) := by decide +kernel
theorem dX4_requireWithin_7 : decode cX4_requireWithin 7 = .ok (.if_icmp .le 13, 3) := by decide +kernel
theorem dX4_requireWithin_10 : decode cX4_requireWithin 10 = .ok (.new 129, 3) := by decide +kernel
theorem dX4_requireWithin_13 : decode cX4_requireWithin 13 = .ok (.dup, 1) := by decide +kernel
theorem dX4_requireWithin_14 : decode cX4_requireWithin 14 = .ok (.ldc 168, 2) := by decide +kernel
theorem dX4_requireWithin_16 : decode cX4_requireWithin 16 = .ok (.invokespecial 133, 3) := by decide +kernel
theorem dX4_requireWithin_19 : decode cX4_requireWithin 19 = .ok (.athrow, 1) := by decide +kernel
theorem dX4_requireWithin_20 : decode cX4_requireWithin 20 = .ok (.return_, 1) := by decide +kernel
set_option maxRecDepth 20000 in
theorem ggX4_requireKey_X4_requireWithin : GoodIn wsX4_requireKey wsX4_requireWithin := goodIn_ca (goodIn_r _ [4, 5, 6] (by decide +kernel) (by decide +kernel)) (goodIn_sub (fun _ h => List.mem_cons_of_mem _ (List.mem_append_right _ h)) (by decide +kernel))
set_option maxRecDepth 20000 in
theorem gX4_requireKey_X4_requireWithin : GoodIn wsX4_requireKey (va_wsS RX4 35 yX4_requireWithin wsX4_requireWithin) := goodIn_app (goodIn_of _ (by decide +kernel)) ggX4_requireKey_X4_requireWithin
theorem dX4_requireKey_0 : decode cX4_requireKey 0 = .ok (.iload_n 0, 1) := by decide +kernel
theorem dX4_requireKey_1 : decode cX4_requireKey 1 = .ok (.iconst 0, 1) := by decide +kernel
theorem dX4_requireKey_2 : decode cX4_requireKey 2 = .ok (.sipush 199, 3) := by decide +kernel
theorem dX4_requireKey_5 : decode cX4_requireKey 5 = .ok (.invokestatic 35, 3) := by decide +kernel
theorem dX4_requireKey_8 : decode cX4_requireKey 8 = .ok (.return_, 1) := by decide +kernel
set_option maxRecDepth 20000 in
theorem ggX4_requireNameAndPort_X4_requireWithin : GoodIn wsX4_requireNameAndPort wsX4_requireWithin := goodIn_ca (goodIn_r _ [4, 5, 6] (by decide +kernel) (by decide +kernel)) (goodIn_sub (fun _ h => List.mem_cons_of_mem _ (List.mem_append_right _ h)) (by decide +kernel))
set_option maxRecDepth 20000 in
theorem gX4_requireNameAndPort_X4_requireWithin : GoodIn wsX4_requireNameAndPort (va_wsS RX4 35 yX4_requireWithin wsX4_requireWithin) := goodIn_app (goodIn_of _ (by decide +kernel)) ggX4_requireNameAndPort_X4_requireWithin
theorem dX4_requireNameAndPort_0 : decode cX4_requireNameAndPort 0 = .ok (.iload_n 0, 1) := by decide +kernel
theorem dX4_requireNameAndPort_1 : decode cX4_requireNameAndPort 1 = .ok (.iconst 0, 1) := by decide +kernel
theorem dX4_requireNameAndPort_2 : decode cX4_requireNameAndPort 2 = .ok (.sipush 9999, 3) := by decide +kernel
theorem dX4_requireNameAndPort_5 : decode cX4_requireNameAndPort 5 = .ok (.invokestatic 35, 3) := by decide +kernel
theorem dX4_requireNameAndPort_8 : decode cX4_requireNameAndPort 8 = .ok (.iload_n 1, 1) := by decide +kernel
theorem dX4_requireNameAndPort_9 : decode cX4_requireNameAndPort 9 = .ok (.iconst 0, 1) := by decide +kernel
theorem dX4_requireNameAndPort_10 : decode cX4_requireNameAndPort 10 = .ok (.iconst 3, 1) := by decide +kernel
theorem dX4_requireNameAndPort_11 : decode cX4_requireNameAndPort 11 = .ok (.invokestatic 35, 3) := by decide +kernel
theorem dX4_requireNameAndPort_14 : decode cX4_requireNameAndPort 14 = .ok (.return_, 1) := by decide +kernel
theorem dX4_lineAt_0 : decode cX4_lineAt 0 = .ok (.iload_n 1, 1) := by decide +kernel
theorem dX4_lineAt_1 : decode cX4_lineAt 1 = .ok (.ifCond .lt 11, 3) := by decide +kernel
theorem dX4_lineAt_4 : decode cX4_lineAt 4 = .ok (.iload_n 1, 1) := by decide +kernel
theorem dX4_lineAt_5 : decode cX4_lineAt 5 = .ok (.aload_n 0, 1) := by decide +kernel
theorem dX4_lineAt_6 : decode cX4_lineAt 6 = .ok (.getfield 47, 3) := by decide +kernel
theorem dX4_lineAt_9 : decode cX4_lineAt 9 = .ok (.if_icmp .lt 13, 3) := by decide +kernel
theorem dX4_lineAt_12 : decode cX4_lineAt 12 = .ok (.new 170, 3) := by decide +kernel
theorem dX4_lineAt_15 : decode cX4_lineAt 15 = .ok (.dup, 1) := by decide +kernel
theorem dX4_lineAt_16 : decode cX4_lineAt 16 = .ok (.ldc 172, 2) := by decide +kernel
theorem dX4_lineAt_18 : decode cX4_lineAt 18 = .ok (.invokespecial 174, 3) := by decide +kernel
theorem dX4_lineAt_21 : decode cX4_lineAt 21 = .ok (.athrow, 1) := by decide +kernel
theorem dX4_lineAt_22 : decode cX4_lineAt 22 = .ok (.aload_n 0, 1) := by decide +kernel
theorem dX4_lineAt_23 : decode cX4_lineAt 23 = .ok (.getfield 11, 3) := by decide +kernel
theorem dX4_lineAt_26 : decode cX4_lineAt 26 = .ok (.iload_n 1, 1) := by decide +kernel
theorem dX4_lineAt_27 : decode cX4_lineAt 27 = .ok (.aaload, 1) := by decide +kernel
theorem dX4_lineAt_28 : decode cX4_lineAt 28 = .ok (.areturn, 1) := by decide +kernel
theorem dX4_certificateAt_0 : decode cX4_certificateAt 0 = .ok (.iload_n 1, 1) := by decide +kernel
theorem dX4_certificateAt_1 : decode cX4_certificateAt 1 = .ok (.iconst (-1), 1) := by decide +kernel
theorem dX4_certificateAt_2 : decode cX4_certificateAt 2 = .ok (.if_icmp .ne 5, 3) := by decide +kernel
theorem dX4_certificateAt_5 : decode cX4_certificateAt 5 = .ok (.aconst_null, 1) := by decide +kernel
theorem dX4_certificateAt_6 : decode cX4_certificateAt 6 = .ok (.areturn, 1) := by decide +kernel
theorem dX4_certificateAt_7 : decode cX4_certificateAt 7 = .ok (.iload_n 1, 1) := by decide +kernel
theorem dX4_certificateAt_8 : decode cX4_certificateAt 8 = .ok (.ifCond .lt 11, 3) := by decide +kernel
theorem dX4_certificateAt_11 : decode cX4_certificateAt 11 = .ok (.iload_n 1, 1) := by decide +kernel
theorem dX4_certificateAt_12 : decode cX4_certificateAt 12 = .ok (.aload_n 0, 1) := by decide +kernel
theorem dX4_certificateAt_13 : decode cX4_certificateAt 13 = .ok (.getfield 71, 3) := by decide +kernel
theorem dX4_certificateAt_16 : decode cX4_certificateAt 16 = .ok (.if_icmp .lt 13, 3) := by decide +kernel
theorem dX4_certificateAt_19 : decode cX4_certificateAt 19 = .ok (.new 170, 3) := by decide +kernel
theorem dX4_certificateAt_22 : decode cX4_certificateAt 22 = .ok (.dup, 1) := by decide +kernel
theorem dX4_certificateAt_23 : decode cX4_certificateAt 23 = .ok (.ldc 175, 2) := by decide +kernel
theorem dX4_certificateAt_25 : decode cX4_certificateAt 25 = .ok (.invokespecial 174, 3) := by decide +kernel
theorem dX4_certificateAt_28 : decode cX4_certificateAt 28 = .ok (.athrow, 1) := by decide +kernel
theorem dX4_certificateAt_29 : decode cX4_certificateAt 29 = .ok (.aload_n 0, 1) := by decide +kernel
theorem dX4_certificateAt_30 : decode cX4_certificateAt 30 = .ok (.getfield 17, 3) := by decide +kernel
theorem dX4_certificateAt_33 : decode cX4_certificateAt 33 = .ok (.iload_n 1, 1) := by decide +kernel
theorem dX4_certificateAt_34 : decode cX4_certificateAt 34 = .ok (.aaload, 1) := by decide +kernel
theorem dX4_certificateAt_35 : decode cX4_certificateAt 35 = .ok (.areturn, 1) := by decide +kernel
set_option maxRecDepth 20000 in
theorem ggX4_appendLine_X1_begin : GoodIn wsX4_appendLine wsX1_begin := goodIn_r _ [10, 11, 12, 13, 14, 15, 16, 29, 30, 31, 32, 33, 34, 35, 36, 37, 38] (by decide +kernel) (by decide +kernel)
set_option maxRecDepth 20000 in
theorem gX4_appendLine_X1_begin : GoodIn wsX4_appendLine (wsV RX4 179 RX1 yX1_begin wsX1_begin) := goodIn_app (goodIn_of _ (by decide +kernel)) ggX4_appendLine_X1_begin
theorem dX4_appendLine_0 : decode cX4_appendLine 0 = .ok (.aload_n 0, 1) := by decide +kernel
theorem dX4_appendLine_1 : decode cX4_appendLine 1 = .ok (.getfield 47, 3) := by decide +kernel
theorem dX4_appendLine_4 : decode cX4_appendLine 4 = .ok (.bipush 40, 2) := by decide +kernel
theorem dX4_appendLine_6 : decode cX4_appendLine 6 = .ok (.if_icmp .lt 13, 3) := by decide +kernel
theorem dX4_appendLine_9 : decode cX4_appendLine 9 = .ok (.new 74, 3) := by decide +kernel
theorem dX4_appendLine_12 : decode cX4_appendLine 12 = .ok (.dup, 1) := by decide +kernel
theorem dX4_appendLine_13 : decode cX4_appendLine 13 = .ok (.ldc 177, 2) := by decide +kernel
theorem dX4_appendLine_15 : decode cX4_appendLine 15 = .ok (.invokespecial 78, 3) := by decide +kernel
theorem dX4_appendLine_18 : decode cX4_appendLine 18 = .ok (.athrow, 1) := by decide +kernel
theorem dX4_appendLine_19 : decode cX4_appendLine 19 = .ok (.aload_n 0, 1) := by decide +kernel
theorem dX4_appendLine_20 : decode cX4_appendLine 20 = .ok (.getfield 11, 3) := by decide +kernel
theorem dX4_appendLine_23 : decode cX4_appendLine 23 = .ok (.aload_n 0, 1) := by decide +kernel
theorem dX4_appendLine_24 : decode cX4_appendLine 24 = .ok (.getfield 47, 3) := by decide +kernel
theorem dX4_appendLine_27 : decode cX4_appendLine 27 = .ok (.aaload, 1) := by decide +kernel
theorem dX4_appendLine_28 : decode cX4_appendLine 28 = .ok (.astore_n 3, 1) := by decide +kernel
theorem dX4_appendLine_29 : decode cX4_appendLine 29 = .ok (.aload_n 0, 1) := by decide +kernel
theorem dX4_appendLine_30 : decode cX4_appendLine 30 = .ok (.dup, 1) := by decide +kernel
theorem dX4_appendLine_31 : decode cX4_appendLine 31 = .ok (.getfield 47, 3) := by decide +kernel
theorem dX4_appendLine_34 : decode cX4_appendLine 34 = .ok (.iconst 1, 1) := by decide +kernel
theorem dX4_appendLine_35 : decode cX4_appendLine 35 = .ok (.iadd, 1) := by decide +kernel
theorem dX4_appendLine_36 : decode cX4_appendLine 36 = .ok (.putfield 47, 3) := by decide +kernel
theorem dX4_appendLine_39 : decode cX4_appendLine 39 = .ok (.aload_n 3, 1) := by decide +kernel
theorem dX4_appendLine_40 : decode cX4_appendLine 40 = .ok (.iload_n 1, 1) := by decide +kernel
theorem dX4_appendLine_41 : decode cX4_appendLine 41 = .ok (.iload_n 2, 1) := by decide +kernel
theorem dX4_appendLine_42 : decode cX4_appendLine 42 = .ok (.aload_n 0, 1) := by decide +kernel
theorem dX4_appendLine_43 : decode cX4_appendLine 43 = .ok (.getfield 146, 3) := by decide +kernel
theorem dX4_appendLine_46 : decode cX4_appendLine 46 = .ok (.invokevirtual 179, 3) := by decide +kernel
theorem dX4_appendLine_49 : decode cX4_appendLine 49 = .ok (.aload_n 3, 1) := by decide +kernel
theorem dX4_appendLine_50 : decode cX4_appendLine 50 = .ok (.areturn, 1) := by decide +kernel
set_option maxRecDepth 20000 in
theorem ggX4_appendSighted_X4_appendLine : GoodIn wsX4_appendSighted wsX4_appendLine := goodIn_ca (goodIn_r _ [6, 7, 8, 9, 10, 11, 12, 13, 14, 15, 16, 17, 18, 19, 20, 21, 22, 52, 53, 54, 55, 56, 57, 58, 59, 60, 61, 62, 63, 64, 65, 66, 67, 68, 69, 70, 71, 72, 73] (by decide +kernel) (by decide +kernel)) (goodIn_sub (fun _ h => List.mem_cons_of_mem _ (List.mem_append_left _ (List.mem_append_right _ h))) (by decide +kernel))
set_option maxRecDepth 20000 in
theorem gX4_appendSighted_X4_appendLine : GoodIn wsX4_appendSighted (wsV RX4 43 RX4 yX4_appendLine wsX4_appendLine) := goodIn_app (goodIn_of _ (by decide +kernel)) ggX4_appendSighted_X4_appendLine
set_option maxRecDepth 20000 in
theorem ggX4_appendSighted_X1_takeHash : GoodIn wsX4_appendSighted wsX1_takeHash := goodIn_r _ [26, 22, 27, 28, 29, 30, 31, 15, 32, 64, 65, 66, 67, 68, 69, 70, 71, 72, 73] (by decide +kernel) (by decide +kernel)
set_option maxRecDepth 20000 in
theorem gX4_appendSighted_X1_takeHash : GoodIn wsX4_appendSighted (wsV RX4 62 RX1 yX1_takeHash wsX1_takeHash) := goodIn_app (goodIn_of _ (by decide +kernel)) ggX4_appendSighted_X1_takeHash
set_option maxRecDepth 20000 in
theorem ggX4_appendSighted_X1_takePattern : GoodIn wsX4_appendSighted wsX1_takePattern := goodIn_ca (goodIn_r _ [36, 37, 8, 22, 21, 38, 39, 40, 41, 42, 43, 44, 45, 46, 47, 48, 49, 50, 51, 64, 65, 66, 67, 68, 69, 70, 71, 72, 73, 74, 75, 76, 77] (by decide +kernel) (by decide +kernel)) (goodIn_sub (fun _ h => List.mem_cons_of_mem _ (List.mem_append_right _ h)) (by decide +kernel))
set_option maxRecDepth 20000 in
theorem gX4_appendSighted_X1_takePattern : GoodIn wsX4_appendSighted (wsV RX4 58 RX1 yX1_takePattern wsX1_takePattern) := goodIn_app (goodIn_of _ (by decide +kernel)) ggX4_appendSighted_X1_takePattern
theorem dX4_appendSighted_0 : decode cX4_appendSighted 0 = .ok (.aload_n 0, 1) := by decide +kernel
theorem dX4_appendSighted_1 : decode cX4_appendSighted 1 = .ok (.iconst 0, 1) := by decide +kernel
theorem dX4_appendSighted_2 : decode cX4_appendSighted 2 = .ok (.iload_n 3, 1) := by decide +kernel
theorem dX4_appendSighted_3 : decode cX4_appendSighted 3 = .ok (.invokevirtual 43, 3) := by decide +kernel
theorem dX4_appendSighted_6 : decode cX4_appendSighted 6 = .ok (.astore 4, 2) := by decide +kernel
theorem dX4_appendSighted_8 : decode cX4_appendSighted 8 = .ok (.aload_n 0, 1) := by decide +kernel
theorem dX4_appendSighted_9 : decode cX4_appendSighted 9 = .ok (.getfield 95, 3) := by decide +kernel
theorem dX4_appendSighted_12 : decode cX4_appendSighted 12 = .ok (.ifCond .eq 22, 3) := by decide +kernel
theorem dX4_appendSighted_15 : decode cX4_appendSighted 15 = .ok (.aload 4, 2) := by decide +kernel
theorem dX4_appendSighted_17 : decode cX4_appendSighted 17 = .ok (.iload_n 1, 1) := by decide +kernel
theorem dX4_appendSighted_18 : decode cX4_appendSighted 18 = .ok (.iload_n 2, 1) := by decide +kernel
theorem dX4_appendSighted_19 : decode cX4_appendSighted 19 = .ok (.bipush 7, 2) := by decide +kernel
theorem dX4_appendSighted_21 : decode cX4_appendSighted 21 = .ok (.iload_n 1, 1) := by decide +kernel
theorem dX4_appendSighted_22 : decode cX4_appendSighted 22 = .ok (.imul, 1) := by decide +kernel
theorem dX4_appendSighted_23 : decode cX4_appendSighted 23 = .ok (.iload_n 3, 1) := by decide +kernel
theorem dX4_appendSighted_24 : decode cX4_appendSighted 24 = .ok (.iadd, 1) := by decide +kernel
theorem dX4_appendSighted_25 : decode cX4_appendSighted 25 = .ok (.bipush 100, 2) := by decide +kernel
theorem dX4_appendSighted_27 : decode cX4_appendSighted 27 = .ok (.irem, 1) := by decide +kernel
theorem dX4_appendSighted_28 : decode cX4_appendSighted 28 = .ok (.invokevirtual 62, 3) := by decide +kernel
theorem dX4_appendSighted_31 : decode cX4_appendSighted 31 = .ok (.goto 14, 3) := by decide +kernel
theorem dX4_appendSighted_34 : decode cX4_appendSighted 34 = .ok (.aload 4, 2) := by decide +kernel
theorem dX4_appendSighted_36 : decode cX4_appendSighted 36 = .ok (.iload_n 1, 1) := by decide +kernel
theorem dX4_appendSighted_37 : decode cX4_appendSighted 37 = .ok (.bipush 15, 2) := by decide +kernel
theorem dX4_appendSighted_39 : decode cX4_appendSighted 39 = .ok (.iload_n 2, 1) := by decide +kernel
theorem dX4_appendSighted_40 : decode cX4_appendSighted 40 = .ok (.iconst 0, 1) := by decide +kernel
theorem dX4_appendSighted_41 : decode cX4_appendSighted 41 = .ok (.invokevirtual 58, 3) := by decide +kernel
theorem dX4_appendSighted_44 : decode cX4_appendSighted 44 = .ok (.pop, 1) := by decide +kernel
theorem dX4_appendSighted_45 : decode cX4_appendSighted 45 = .ok (.return_, 1) := by decide +kernel
theorem dX4_takeOut_0 : decode cX4_takeOut 0 = .ok (.aload_n 0, 1) := by decide +kernel
theorem dX4_takeOut_1 : decode cX4_takeOut 1 = .ok (.getfield 11, 3) := by decide +kernel
theorem dX4_takeOut_4 : decode cX4_takeOut 4 = .ok (.iload_n 1, 1) := by decide +kernel
theorem dX4_takeOut_5 : decode cX4_takeOut 5 = .ok (.aaload, 1) := by decide +kernel
theorem dX4_takeOut_6 : decode cX4_takeOut 6 = .ok (.astore_n 2, 1) := by decide +kernel
theorem dX4_takeOut_7 : decode cX4_takeOut 7 = .ok (.iload_n 1, 1) := by decide +kernel
theorem dX4_takeOut_8 : decode cX4_takeOut 8 = .ok (.iconst 1, 1) := by decide +kernel
theorem dX4_takeOut_9 : decode cX4_takeOut 9 = .ok (.iadd, 1) := by decide +kernel
theorem dX4_takeOut_10 : decode cX4_takeOut 10 = .ok (.istore_n 3, 1) := by decide +kernel
theorem dX4_takeOut_11 : decode cX4_takeOut 11 = .ok (.iload_n 3, 1) := by decide +kernel
theorem dX4_takeOut_12 : decode cX4_takeOut 12 = .ok (.aload_n 0, 1) := by decide +kernel
theorem dX4_takeOut_13 : decode cX4_takeOut 13 = .ok (.getfield 47, 3) := by decide +kernel
theorem dX4_takeOut_16 : decode cX4_takeOut 16 = .ok (.if_icmp .ge 23, 3) := by decide +kernel
theorem dX4_takeOut_19 : decode cX4_takeOut 19 = .ok (.aload_n 0, 1) := by decide +kernel
theorem dX4_takeOut_20 : decode cX4_takeOut 20 = .ok (.getfield 11, 3) := by decide +kernel
theorem dX4_takeOut_23 : decode cX4_takeOut 23 = .ok (.iload_n 3, 1) := by decide +kernel
theorem dX4_takeOut_24 : decode cX4_takeOut 24 = .ok (.iconst 1, 1) := by decide +kernel
theorem dX4_takeOut_25 : decode cX4_takeOut 25 = .ok (.isub, 1) := by decide +kernel
theorem dX4_takeOut_26 : decode cX4_takeOut 26 = .ok (.aload_n 0, 1) := by decide +kernel
theorem dX4_takeOut_27 : decode cX4_takeOut 27 = .ok (.getfield 11, 3) := by decide +kernel
theorem dX4_takeOut_30 : decode cX4_takeOut 30 = .ok (.iload_n 3, 1) := by decide +kernel
theorem dX4_takeOut_31 : decode cX4_takeOut 31 = .ok (.aaload, 1) := by decide +kernel
theorem dX4_takeOut_32 : decode cX4_takeOut 32 = .ok (.aastore, 1) := by decide +kernel
theorem dX4_takeOut_33 : decode cX4_takeOut 33 = .ok (.iinc 3 1, 3) := by decide +kernel
theorem dX4_takeOut_36 : decode cX4_takeOut 36 = .ok (.goto (-25), 3) := by decide +kernel
theorem dX4_takeOut_39 : decode cX4_takeOut 39 = .ok (.aload_n 0, 1) := by decide +kernel
theorem dX4_takeOut_40 : decode cX4_takeOut 40 = .ok (.dup, 1) := by decide +kernel
theorem dX4_takeOut_41 : decode cX4_takeOut 41 = .ok (.getfield 47, 3) := by decide +kernel
theorem dX4_takeOut_44 : decode cX4_takeOut 44 = .ok (.iconst 1, 1) := by decide +kernel
theorem dX4_takeOut_45 : decode cX4_takeOut 45 = .ok (.isub, 1) := by decide +kernel
theorem dX4_takeOut_46 : decode cX4_takeOut 46 = .ok (.putfield 47, 3) := by decide +kernel
theorem dX4_takeOut_49 : decode cX4_takeOut 49 = .ok (.aload_n 0, 1) := by decide +kernel
theorem dX4_takeOut_50 : decode cX4_takeOut 50 = .ok (.getfield 11, 3) := by decide +kernel
theorem dX4_takeOut_53 : decode cX4_takeOut 53 = .ok (.aload_n 0, 1) := by decide +kernel
theorem dX4_takeOut_54 : decode cX4_takeOut 54 = .ok (.getfield 47, 3) := by decide +kernel
theorem dX4_takeOut_57 : decode cX4_takeOut 57 = .ok (.aload_n 2, 1) := by decide +kernel
theorem dX4_takeOut_58 : decode cX4_takeOut 58 = .ok (.aastore, 1) := by decide +kernel
theorem dX4_takeOut_59 : decode cX4_takeOut 59 = .ok (.return_, 1) := by decide +kernel
set_option maxRecDepth 20000 in
theorem ggX4_turnLines_X4_isLivePlain : GoodIn wsX4_turnLines wsX4_isLivePlain := goodIn_r _ [8, 3, 9, 10, 11, 12, 13, 14, 71, 72, 73, 74, 75, 76, 77, 78, 79, 80, 59, 60, 61, 62, 63, 64, 65, 66, 67, 68, 69, 70] (by decide +kernel) (by decide +kernel)
set_option maxRecDepth 20000 in
theorem gX4_turnLines_X4_isLivePlain : GoodIn wsX4_turnLines (wsV RX4 182 RX4 yX4_isLivePlain wsX4_isLivePlain) := goodIn_app (goodIn_of _ (by decide +kernel)) ggX4_turnLines_X4_isLivePlain
set_option maxRecDepth 20000 in
theorem ggX4_turnLines_X1_covers : GoodIn wsX4_turnLines wsX1_covers := goodIn_r _ [18, 19, 20, 21, 22, 23, 24, 25, 26, 12, 27, 28, 29, 30, 31, 32, 33, 34, 35, 36, 7, 37, 71, 72, 73, 74, 75, 76, 77, 78, 79, 80, 81, 82, 83, 84] (by decide +kernel) (by decide +kernel)
set_option maxRecDepth 20000 in
theorem gX4_turnLines_X1_covers : GoodIn wsX4_turnLines (wsV RX4 164 RX1 yX1_covers wsX1_covers) := goodIn_app (goodIn_of _ (by decide +kernel)) ggX4_turnLines_X1_covers
set_option maxRecDepth 20000 in
theorem ggX4_turnLines_X4_appendLine : GoodIn wsX4_turnLines wsX4_appendLine := goodIn_ca (goodIn_r _ [41, 42, 43, 1, 2, 3, 44, 45, 46, 12, 47, 48, 49, 50, 14, 23, 19, 59, 60, 61, 62, 63, 64, 65, 66, 67, 68, 69, 70, 71, 72, 73, 74, 75, 76, 77, 78, 79, 80] (by decide +kernel) (by decide +kernel)) (goodIn_sub (fun _ h => List.mem_cons_of_mem _ (List.mem_append_right _ h)) (by decide +kernel))
set_option maxRecDepth 20000 in
theorem gX4_turnLines_X4_appendLine : GoodIn wsX4_turnLines (wsV RX4 43 RX4 yX4_appendLine wsX4_appendLine) := goodIn_app (goodIn_of _ (by decide +kernel)) ggX4_turnLines_X4_appendLine
set_option maxRecDepth 20000 in
theorem ggX4_turnLines_X1_takeMatching : GoodIn wsX4_turnLines wsX1_takeMatching := goodIn_r _ [54, 23, 24, 19, 22, 21, 20, 71, 72, 73, 74, 75, 76, 77, 78, 79, 80] (by decide +kernel) (by decide +kernel)
set_option maxRecDepth 20000 in
theorem gX4_turnLines_X1_takeMatching : GoodIn wsX4_turnLines (wsV RX4 186 RX1 yX1_takeMatching wsX1_takeMatching) := goodIn_app (goodIn_of _ (by decide +kernel)) ggX4_turnLines_X1_takeMatching
set_option maxRecDepth 20000 in
theorem ggX4_turnLines_X1_endBy : GoodIn wsX4_turnLines wsX1_endBy := goodIn_r _ [58, 14, 71, 72, 73, 74, 75, 76, 77, 78, 79, 80] (by decide +kernel) (by decide +kernel)
set_option maxRecDepth 20000 in
theorem gX4_turnLines_X1_endBy : GoodIn wsX4_turnLines (wsV RX4 190 RX1 yX1_endBy wsX1_endBy) := goodIn_app (goodIn_of _ (by decide +kernel)) ggX4_turnLines_X1_endBy
theorem dX4_turnLines_0 : decode cX4_turnLines 0 = .ok (.aload_n 0, 1) := by decide +kernel
theorem dX4_turnLines_1 : decode cX4_turnLines 1 = .ok (.getfield 47, 3) := by decide +kernel
theorem dX4_turnLines_4 : decode cX4_turnLines 4 = .ok (.istore 6, 2) := by decide +kernel
theorem dX4_turnLines_6 : decode cX4_turnLines 6 = .ok (.iconst 0, 1) := by decide +kernel
theorem dX4_turnLines_7 : decode cX4_turnLines 7 = .ok (.istore 7, 2) := by decide +kernel
theorem dX4_turnLines_9 : decode cX4_turnLines 9 = .ok (.iload 7, 2) := by decide +kernel
theorem dX4_turnLines_11 : decode cX4_turnLines 11 = .ok (.iload 6, 2) := by decide +kernel
theorem dX4_turnLines_13 : decode cX4_turnLines 13 = .ok (.if_icmp .ge 79, 3) := by decide +kernel
theorem dX4_turnLines_16 : decode cX4_turnLines 16 = .ok (.aload_n 0, 1) := by decide +kernel
theorem dX4_turnLines_17 : decode cX4_turnLines 17 = .ok (.getfield 47, 3) := by decide +kernel
theorem dX4_turnLines_20 : decode cX4_turnLines 20 = .ok (.bipush 40, 2) := by decide +kernel
theorem dX4_turnLines_22 : decode cX4_turnLines 22 = .ok (.if_icmp .ge 70, 3) := by decide +kernel
theorem dX4_turnLines_25 : decode cX4_turnLines 25 = .ok (.aload_n 0, 1) := by decide +kernel
theorem dX4_turnLines_26 : decode cX4_turnLines 26 = .ok (.getfield 11, 3) := by decide +kernel
theorem dX4_turnLines_29 : decode cX4_turnLines 29 = .ok (.iload 7, 2) := by decide +kernel
theorem dX4_turnLines_31 : decode cX4_turnLines 31 = .ok (.aaload, 1) := by decide +kernel
theorem dX4_turnLines_32 : decode cX4_turnLines 32 = .ok (.astore 8, 2) := by decide +kernel
theorem dX4_turnLines_34 : decode cX4_turnLines 34 = .ok (.aload_n 0, 1) := by decide +kernel
theorem dX4_turnLines_35 : decode cX4_turnLines 35 = .ok (.aload 8, 2) := by decide +kernel
theorem dX4_turnLines_37 : decode cX4_turnLines 37 = .ok (.invokevirtual 182, 3) := by decide +kernel
theorem dX4_turnLines_40 : decode cX4_turnLines 40 = .ok (.ifCond .eq 46, 3) := by decide +kernel
theorem dX4_turnLines_43 : decode cX4_turnLines 43 = .ok (.aload 8, 2) := by decide +kernel
theorem dX4_turnLines_45 : decode cX4_turnLines 45 = .ok (.getfield 65, 3) := by decide +kernel
theorem dX4_turnLines_48 : decode cX4_turnLines 48 = .ok (.iload_n 3, 1) := by decide +kernel
theorem dX4_turnLines_49 : decode cX4_turnLines 49 = .ok (.if_icmp .ne 37, 3) := by decide +kernel
theorem dX4_turnLines_52 : decode cX4_turnLines 52 = .ok (.aload 8, 2) := by decide +kernel
theorem dX4_turnLines_54 : decode cX4_turnLines 54 = .ok (.iload_n 1, 1) := by decide +kernel
theorem dX4_turnLines_55 : decode cX4_turnLines 55 = .ok (.iload_n 2, 1) := by decide +kernel
theorem dX4_turnLines_56 : decode cX4_turnLines 56 = .ok (.invokevirtual 164, 3) := by decide +kernel
theorem dX4_turnLines_59 : decode cX4_turnLines 59 = .ok (.ifCond .eq 27, 3) := by decide +kernel
theorem dX4_turnLines_62 : decode cX4_turnLines 62 = .ok (.aload_n 0, 1) := by decide +kernel
theorem dX4_turnLines_63 : decode cX4_turnLines 63 = .ok (.iconst 0, 1) := by decide +kernel
theorem dX4_turnLines_64 : decode cX4_turnLines 64 = .ok (.iload 4, 2) := by decide +kernel
theorem dX4_turnLines_66 : decode cX4_turnLines 66 = .ok (.invokevirtual 43, 3) := by decide +kernel
theorem dX4_turnLines_69 : decode cX4_turnLines 69 = .ok (.aload 8, 2) := by decide +kernel
theorem dX4_turnLines_71 : decode cX4_turnLines 71 = .ok (.invokevirtual 186, 3) := by decide +kernel
theorem dX4_turnLines_74 : decode cX4_turnLines 74 = .ok (.aload 8, 2) := by decide +kernel
theorem dX4_turnLines_76 : decode cX4_turnLines 76 = .ok (.aload_n 0, 1) := by decide +kernel
theorem dX4_turnLines_77 : decode cX4_turnLines 77 = .ok (.getfield 146, 3) := by decide +kernel
theorem dX4_turnLines_80 : decode cX4_turnLines 80 = .ok (.iload 5, 2) := by decide +kernel
theorem dX4_turnLines_82 : decode cX4_turnLines 82 = .ok (.iadd, 1) := by decide +kernel
theorem dX4_turnLines_83 : decode cX4_turnLines 83 = .ok (.invokevirtual 190, 3) := by decide +kernel
theorem dX4_turnLines_86 : decode cX4_turnLines 86 = .ok (.iinc 7 1, 3) := by decide +kernel
theorem dX4_turnLines_89 : decode cX4_turnLines 89 = .ok (.goto (-80), 3) := by decide +kernel
theorem dX4_turnLines_92 : decode cX4_turnLines 92 = .ok (.aload_n 0, 1) := by decide +kernel
theorem dX4_turnLines_93 : decode cX4_turnLines 93 = .ok (.getfield 47, 3) := by decide +kernel
theorem dX4_turnLines_96 : decode cX4_turnLines 96 = .ok (.iload 6, 2) := by decide +kernel
theorem dX4_turnLines_98 : decode cX4_turnLines 98 = .ok (.isub, 1) := by decide +kernel
theorem dX4_turnLines_99 : decode cX4_turnLines 99 = .ok (.ireturn, 1) := by decide +kernel
set_option maxRecDepth 20000 in
theorem ggX4_isToBeCleaned_X1_hasEnded : GoodIn wsX4_isToBeCleaned wsX1_hasEnded := goodIn_r _ [6, 7, 8, 9, 10, 11, 12, 13, 14, 15, 16, 17] (by decide +kernel) (by decide +kernel)
set_option maxRecDepth 20000 in
theorem gX4_isToBeCleaned_X1_hasEnded : GoodIn wsX4_isToBeCleaned (wsV RX4 193 RX1 yX1_hasEnded wsX1_hasEnded) := goodIn_app (goodIn_of _ (by decide +kernel)) ggX4_isToBeCleaned_X1_hasEnded
theorem dX4_isToBeCleaned_0 : decode cX4_isToBeCleaned 0 = .ok (.aload_n 1, 1) := by decide +kernel
theorem dX4_isToBeCleaned_1 : decode cX4_isToBeCleaned 1 = .ok (.getfield 155, 3) := by decide +kernel
theorem dX4_isToBeCleaned_4 : decode cX4_isToBeCleaned 4 = .ok (.ifCond .ne 31, 3) := by decide +kernel
theorem dX4_isToBeCleaned_7 : decode cX4_isToBeCleaned 7 = .ok (.aload_n 1, 1) := by decide +kernel
theorem dX4_isToBeCleaned_8 : decode cX4_isToBeCleaned 8 = .ok (.aload_n 0, 1) := by decide +kernel
theorem dX4_isToBeCleaned_9 : decode cX4_isToBeCleaned 9 = .ok (.getfield 146, 3) := by decide +kernel
theorem dX4_isToBeCleaned_12 : decode cX4_isToBeCleaned 12 = .ok (.invokevirtual 193, 3) := by decide +kernel
theorem dX4_isToBeCleaned_15 : decode cX4_isToBeCleaned 15 = .ok (.ifCond .ne 16, 3) := by decide +kernel
theorem dX4_isToBeCleaned_18 : decode cX4_isToBeCleaned 18 = .ok (.aload_n 0, 1) := by decide +kernel
theorem dX4_isToBeCleaned_19 : decode cX4_isToBeCleaned 19 = .ok (.getfield 146, 3) := by decide +kernel
theorem dX4_isToBeCleaned_22 : decode cX4_isToBeCleaned 22 = .ok (.aload_n 1, 1) := by decide +kernel
theorem dX4_isToBeCleaned_23 : decode cX4_isToBeCleaned 23 = .ok (.getfield 158, 3) := by decide +kernel
theorem dX4_isToBeCleaned_26 : decode cX4_isToBeCleaned 26 = .ok (.isub, 1) := by decide +kernel
theorem dX4_isToBeCleaned_27 : decode cX4_isToBeCleaned 27 = .ok (.iload_n 2, 1) := by decide +kernel
theorem dX4_isToBeCleaned_28 : decode cX4_isToBeCleaned 28 = .ok (.if_icmp .lt 7, 3) := by decide +kernel
theorem dX4_isToBeCleaned_31 : decode cX4_isToBeCleaned 31 = .ok (.iconst 1, 1) := by decide +kernel
theorem dX4_isToBeCleaned_32 : decode cX4_isToBeCleaned 32 = .ok (.goto 4, 3) := by decide +kernel
theorem dX4_isToBeCleaned_35 : decode cX4_isToBeCleaned 35 = .ok (.iconst 0, 1) := by decide +kernel
theorem dX4_isToBeCleaned_36 : decode cX4_isToBeCleaned 36 = .ok (.ireturn, 1) := by decide +kernel
set_option maxRecDepth 20000 in
theorem ggX4_seeToday_X1_hasEnded : GoodIn wsX4_seeToday wsX1_hasEnded := goodIn_r _ [8, 9, 51, 52, 53, 54, 55, 56, 57, 58, 59, 60] (by decide +kernel) (by decide +kernel)
set_option maxRecDepth 20000 in
theorem gX4_seeToday_X1_hasEnded : GoodIn wsX4_seeToday (wsV RX4 193 RX1 yX1_hasEnded wsX1_hasEnded) := goodIn_app (goodIn_of _ (by decide +kernel)) ggX4_seeToday_X1_hasEnded
set_option maxRecDepth 20000 in
theorem ggX4_seeToday_X1_hasEither : GoodIn wsX4_seeToday wsX1_hasEither := goodIn_r _ [13, 14, 51, 52, 53, 54, 55, 56, 57, 58, 59, 60] (by decide +kernel) (by decide +kernel)
set_option maxRecDepth 20000 in
theorem gX4_seeToday_X1_hasEither : GoodIn wsX4_seeToday (wsV RX4 197 RX1 yX1_hasEither wsX1_hasEither) := goodIn_app (goodIn_of _ (by decide +kernel)) ggX4_seeToday_X1_hasEither
set_option maxRecDepth 20000 in
theorem ggX4_seeToday_X1_covers : GoodIn wsX4_seeToday wsX1_covers := goodIn_r _ [18, 19, 20, 21, 22, 23, 24, 25, 26, 7, 27, 28, 29, 30, 31, 32, 33, 34, 35, 36, 37, 38, 51, 52, 53, 54, 55, 56, 57, 58, 59, 60, 61, 62, 63, 64] (by decide +kernel) (by decide +kernel)
set_option maxRecDepth 20000 in
theorem gX4_seeToday_X1_covers : GoodIn wsX4_seeToday (wsV RX4 164 RX1 yX1_covers wsX1_covers) := goodIn_app (goodIn_of _ (by decide +kernel)) ggX4_seeToday_X1_covers
theorem dX4_seeToday_0 : decode cX4_seeToday 0 = .ok (.iconst 0, 1) := by decide +kernel
theorem dX4_seeToday_1 : decode cX4_seeToday 1 = .ok (.istore 5, 2) := by decide +kernel
theorem dX4_seeToday_3 : decode cX4_seeToday 3 = .ok (.iload 5, 2) := by decide +kernel
theorem dX4_seeToday_5 : decode cX4_seeToday 5 = .ok (.aload_n 0, 1) := by decide +kernel
theorem dX4_seeToday_6 : decode cX4_seeToday 6 = .ok (.getfield 47, 3) := by decide +kernel
theorem dX4_seeToday_9 : decode cX4_seeToday 9 = .ok (.if_icmp .ge 69, 3) := by decide +kernel
theorem dX4_seeToday_12 : decode cX4_seeToday 12 = .ok (.aload_n 0, 1) := by decide +kernel
theorem dX4_seeToday_13 : decode cX4_seeToday 13 = .ok (.getfield 11, 3) := by decide +kernel
theorem dX4_seeToday_16 : decode cX4_seeToday 16 = .ok (.iload 5, 2) := by decide +kernel
theorem dX4_seeToday_18 : decode cX4_seeToday 18 = .ok (.aaload, 1) := by decide +kernel
theorem dX4_seeToday_19 : decode cX4_seeToday 19 = .ok (.astore 6, 2) := by decide +kernel
theorem dX4_seeToday_21 : decode cX4_seeToday 21 = .ok (.aload 6, 2) := by decide +kernel
theorem dX4_seeToday_23 : decode cX4_seeToday 23 = .ok (.getfield 155, 3) := by decide +kernel
theorem dX4_seeToday_26 : decode cX4_seeToday 26 = .ok (.iconst 1, 1) := by decide +kernel
theorem dX4_seeToday_27 : decode cX4_seeToday 27 = .ok (.if_icmp .eq 45, 3) := by decide +kernel
theorem dX4_seeToday_30 : decode cX4_seeToday 30 = .ok (.aload 6, 2) := by decide +kernel
theorem dX4_seeToday_32 : decode cX4_seeToday 32 = .ok (.aload_n 0, 1) := by decide +kernel
theorem dX4_seeToday_33 : decode cX4_seeToday 33 = .ok (.getfield 146, 3) := by decide +kernel
theorem dX4_seeToday_36 : decode cX4_seeToday 36 = .ok (.invokevirtual 193, 3) := by decide +kernel
theorem dX4_seeToday_39 : decode cX4_seeToday 39 = .ok (.ifCond .ne 33, 3) := by decide +kernel
theorem dX4_seeToday_42 : decode cX4_seeToday 42 = .ok (.aload 6, 2) := by decide +kernel
theorem dX4_seeToday_44 : decode cX4_seeToday 44 = .ok (.iload_n 3, 1) := by decide +kernel
theorem dX4_seeToday_45 : decode cX4_seeToday 45 = .ok (.iload 4, 2) := by decide +kernel
theorem dX4_seeToday_47 : decode cX4_seeToday 47 = .ok (.invokevirtual 197, 3) := by decide +kernel
theorem dX4_seeToday_50 : decode cX4_seeToday 50 = .ok (.ifCond .eq 22, 3) := by decide +kernel
theorem dX4_seeToday_53 : decode cX4_seeToday 53 = .ok (.aload 6, 2) := by decide +kernel
theorem dX4_seeToday_55 : decode cX4_seeToday 55 = .ok (.iload_n 1, 1) := by decide +kernel
theorem dX4_seeToday_56 : decode cX4_seeToday 56 = .ok (.iload_n 2, 1) := by decide +kernel
theorem dX4_seeToday_57 : decode cX4_seeToday 57 = .ok (.invokevirtual 164, 3) := by decide +kernel
theorem dX4_seeToday_60 : decode cX4_seeToday 60 = .ok (.ifCond .eq 12, 3) := by decide +kernel
theorem dX4_seeToday_63 : decode cX4_seeToday 63 = .ok (.aload 6, 2) := by decide +kernel
theorem dX4_seeToday_65 : decode cX4_seeToday 65 = .ok (.aload_n 0, 1) := by decide +kernel
theorem dX4_seeToday_66 : decode cX4_seeToday 66 = .ok (.getfield 146, 3) := by decide +kernel
theorem dX4_seeToday_69 : decode cX4_seeToday 69 = .ok (.putfield 158, 3) := by decide +kernel
theorem dX4_seeToday_72 : decode cX4_seeToday 72 = .ok (.iinc 5 1, 3) := by decide +kernel
theorem dX4_seeToday_75 : decode cX4_seeToday 75 = .ok (.goto (-72), 3) := by decide +kernel
theorem dX4_seeToday_78 : decode cX4_seeToday 78 = .ok (.return_, 1) := by decide +kernel
theorem dX4_letWait_0 : decode cX4_letWait 0 = .ok (.aload_n 0, 1) := by decide +kernel
theorem dX4_letWait_1 : decode cX4_letWait 1 = .ok (.iload_n 1, 1) := by decide +kernel
theorem dX4_letWait_2 : decode cX4_letWait 2 = .ok (.putfield 123, 3) := by decide +kernel
theorem dX4_letWait_5 : decode cX4_letWait 5 = .ok (.aload_n 0, 1) := by decide +kernel
theorem dX4_letWait_6 : decode cX4_letWait 6 = .ok (.iload_n 2, 1) := by decide +kernel
theorem dX4_letWait_7 : decode cX4_letWait 7 = .ok (.putfield 126, 3) := by decide +kernel
theorem dX4_letWait_10 : decode cX4_letWait 10 = .ok (.aload_n 0, 1) := by decide +kernel
theorem dX4_letWait_11 : decode cX4_letWait 11 = .ok (.iload_n 3, 1) := by decide +kernel
theorem dX4_letWait_12 : decode cX4_letWait 12 = .ok (.putfield 31, 3) := by decide +kernel
theorem dX4_letWait_15 : decode cX4_letWait 15 = .ok (.return_, 1) := by decide +kernel
set_option maxRecDepth 20000 in
theorem ggX4_judgementOf_X4_authorityOf : GoodIn wsX4_judgementOf wsX4_authorityOf := goodIn_r _ [4, 84, 85, 86, 87, 88, 89, 90] (by decide +kernel) (by decide +kernel)
set_option maxRecDepth 20000 in
theorem gX4_judgementOf_X4_authorityOf : GoodIn wsX4_judgementOf (va_wsS RX4 107 yX4_authorityOf wsX4_authorityOf) := goodIn_app (goodIn_of _ (by decide +kernel)) ggX4_judgementOf_X4_authorityOf
set_option maxRecDepth 20000 in
theorem ggX4_judgementOf_X4_judgementByLines : GoodIn wsX4_judgementOf wsX4_judgementByLines := goodIn_r _ [8, 9, 10, 11, 12, 13, 14, 15, 16, 17, 18, 19, 20, 21, 22, 23, 24, 25, 26, 27, 28, 29, 30, 31, 32, 33, 34, 35, 36, 37, 3, 38, 39, 40, 41, 42, 43, 44, 45, 46, 47, 48, 49, 50, 51, 52, 53, 54, 55, 56, 57, 58, 59, 60, 91, 92, 93, 94, 95, 96, 97, 98, 99, 100, 101, 102, 103, 104, 105, 106, 107, 108, 109, 110, 111, 112, 113, 114, 115, 116] (by decide +kernel) (by decide +kernel)
set_option maxRecDepth 20000 in
theorem gX4_judgementOf_X4_judgementByLines : GoodIn wsX4_judgementOf (wsV RX4 134 RX4 yX4_judgementByLines wsX4_judgementByLines) := goodIn_app (goodIn_of _ (by decide +kernel)) ggX4_judgementOf_X4_judgementByLines
set_option maxRecDepth 20000 in
theorem ggX4_judgementOf_X4_isGood : GoodIn wsX4_judgementOf wsX4_isGood := goodIn_r _ [64, 52, 65, 37, 3, 38, 66, 67, 68, 69, 70, 71, 72, 73, 74, 75, 76, 77, 78, 79, 80, 81, 82, 83, 9, 10, 53, 54, 55, 18, 56, 57, 15, 16, 17, 19, 20, 21, 22, 23, 24, 25, 26, 27, 28, 29, 30, 31, 32, 33, 34, 35, 36, 84, 85, 86, 87, 88, 89, 90, 91, 92, 93, 94, 95, 96, 97, 98, 99, 100, 101, 102, 117, 118, 119, 103, 104, 105, 106, 107, 108, 109, 110, 111, 112, 113, 114, 115, 116] (by decide +kernel) (by decide +kernel)
set_option maxRecDepth 20000 in
theorem gX4_judgementOf_X4_isGood : GoodIn wsX4_judgementOf (wsV RX4 201 RX4 yX4_isGood wsX4_isGood) := goodIn_app (goodIn_of _ (by decide +kernel)) ggX4_judgementOf_X4_isGood
theorem dX4_judgementOf_0 : decode cX4_judgementOf 0 = .ok (.aload_n 0, 1) := by decide +kernel
theorem dX4_judgementOf_1 : decode cX4_judgementOf 1 = .ok (.iload_n 1, 1) := by decide +kernel
theorem dX4_judgementOf_2 : decode cX4_judgementOf 2 = .ok (.iload_n 2, 1) := by decide +kernel
theorem dX4_judgementOf_3 : decode cX4_judgementOf 3 = .ok (.iload_n 3, 1) := by decide +kernel
theorem dX4_judgementOf_4 : decode cX4_judgementOf 4 = .ok (.aload 4, 2) := by decide +kernel
theorem dX4_judgementOf_6 : decode cX4_judgementOf 6 = .ok (.invokestatic 107, 3) := by decide +kernel
theorem dX4_judgementOf_9 : decode cX4_judgementOf 9 = .ok (.invokevirtual 134, 3) := by decide +kernel
theorem dX4_judgementOf_12 : decode cX4_judgementOf 12 = .ok (.istore 5, 2) := by decide +kernel
theorem dX4_judgementOf_14 : decode cX4_judgementOf 14 = .ok (.iload 5, 2) := by decide +kernel
theorem dX4_judgementOf_16 : decode cX4_judgementOf 16 = .ok (.ifCond .eq 30, 3) := by decide +kernel
theorem dX4_judgementOf_19 : decode cX4_judgementOf 19 = .ok (.aload 4, 2) := by decide +kernel
theorem dX4_judgementOf_21 : decode cX4_judgementOf 21 = .ok (.ifnull 25, 3) := by decide +kernel
theorem dX4_judgementOf_24 : decode cX4_judgementOf 24 = .ok (.aload 4, 2) := by decide +kernel
theorem dX4_judgementOf_26 : decode cX4_judgementOf 26 = .ok (.getfield 200, 3) := by decide +kernel
theorem dX4_judgementOf_29 : decode cX4_judgementOf 29 = .ok (.iload_n 3, 1) := by decide +kernel
theorem dX4_judgementOf_30 : decode cX4_judgementOf 30 = .ok (.if_icmp .ne 16, 3) := by decide +kernel
theorem dX4_judgementOf_33 : decode cX4_judgementOf 33 = .ok (.aload_n 0, 1) := by decide +kernel
theorem dX4_judgementOf_34 : decode cX4_judgementOf 34 = .ok (.aload 4, 2) := by decide +kernel
theorem dX4_judgementOf_36 : decode cX4_judgementOf 36 = .ok (.iload_n 1, 1) := by decide +kernel
theorem dX4_judgementOf_37 : decode cX4_judgementOf 37 = .ok (.iload_n 2, 1) := by decide +kernel
theorem dX4_judgementOf_38 : decode cX4_judgementOf 38 = .ok (.invokevirtual 201, 3) := by decide +kernel
theorem dX4_judgementOf_41 : decode cX4_judgementOf 41 = .ok (.ifCond .eq 5, 3) := by decide +kernel
theorem dX4_judgementOf_44 : decode cX4_judgementOf 44 = .ok (.iconst 1, 1) := by decide +kernel
theorem dX4_judgementOf_45 : decode cX4_judgementOf 45 = .ok (.ireturn, 1) := by decide +kernel
theorem dX4_judgementOf_46 : decode cX4_judgementOf 46 = .ok (.iload 5, 2) := by decide +kernel
theorem dX4_judgementOf_48 : decode cX4_judgementOf 48 = .ok (.ireturn, 1) := by decide +kernel
set_option maxRecDepth 20000 in
theorem ggX4_judgementByLines_X1_covers : GoodIn wsX4_judgementByLines wsX1_covers := goodIn_r _ [11, 12, 13, 14, 15, 16, 17, 18, 19, 10, 20, 21, 22, 23, 24, 25, 26, 27, 28, 29, 30, 31, 66, 67, 68, 69, 70, 71, 72, 73, 74, 75, 76, 77, 78, 79] (by decide +kernel) (by decide +kernel)
set_option maxRecDepth 20000 in
theorem gX4_judgementByLines_X1_covers : GoodIn wsX4_judgementByLines (wsV RX4 164 RX1 yX1_covers wsX1_covers) := goodIn_app (goodIn_of _ (by decide +kernel)) ggX4_judgementByLines_X1_covers
set_option maxRecDepth 20000 in
theorem ggX4_judgementByLines_X4_judgementByMatch : GoodIn wsX4_judgementByLines wsX4_judgementByMatch := goodIn_r _ [35, 36, 37, 38, 10, 39, 40, 41, 42, 43, 30, 44, 45, 46, 47, 48, 49, 50, 51, 52, 53, 66, 67, 68, 69, 70, 71, 72, 73, 74, 75, 54, 55, 56, 57, 58, 59, 60, 61, 62, 63, 64, 65] (by decide +kernel) (by decide +kernel)
set_option maxRecDepth 20000 in
theorem gX4_judgementByLines_X4_judgementByMatch : GoodIn wsX4_judgementByLines (wsV RX4 205 RX4 yX4_judgementByMatch wsX4_judgementByMatch) := goodIn_app (goodIn_of _ (by decide +kernel)) ggX4_judgementByLines_X4_judgementByMatch
theorem dX4_judgementByLines_0 : decode cX4_judgementByLines 0 = .ok (.iconst 5, 1) := by decide +kernel
theorem dX4_judgementByLines_1 : decode cX4_judgementByLines 1 = .ok (.istore 5, 2) := by decide +kernel
theorem dX4_judgementByLines_3 : decode cX4_judgementByLines 3 = .ok (.iconst 0, 1) := by decide +kernel
theorem dX4_judgementByLines_4 : decode cX4_judgementByLines 4 = .ok (.istore 6, 2) := by decide +kernel
theorem dX4_judgementByLines_6 : decode cX4_judgementByLines 6 = .ok (.iload 6, 2) := by decide +kernel
theorem dX4_judgementByLines_8 : decode cX4_judgementByLines 8 = .ok (.aload_n 0, 1) := by decide +kernel
theorem dX4_judgementByLines_9 : decode cX4_judgementByLines 9 = .ok (.getfield 47, 3) := by decide +kernel
theorem dX4_judgementByLines_12 : decode cX4_judgementByLines 12 = .ok (.if_icmp .ge 45, 3) := by decide +kernel
theorem dX4_judgementByLines_15 : decode cX4_judgementByLines 15 = .ok (.aload_n 0, 1) := by decide +kernel
theorem dX4_judgementByLines_16 : decode cX4_judgementByLines 16 = .ok (.getfield 11, 3) := by decide +kernel
theorem dX4_judgementByLines_19 : decode cX4_judgementByLines 19 = .ok (.iload 6, 2) := by decide +kernel
theorem dX4_judgementByLines_21 : decode cX4_judgementByLines 21 = .ok (.aaload, 1) := by decide +kernel
theorem dX4_judgementByLines_22 : decode cX4_judgementByLines 22 = .ok (.iload_n 1, 1) := by decide +kernel
theorem dX4_judgementByLines_23 : decode cX4_judgementByLines 23 = .ok (.iload_n 2, 1) := by decide +kernel
theorem dX4_judgementByLines_24 : decode cX4_judgementByLines 24 = .ok (.invokevirtual 164, 3) := by decide +kernel
theorem dX4_judgementByLines_27 : decode cX4_judgementByLines 27 = .ok (.ifCond .eq 24, 3) := by decide +kernel
theorem dX4_judgementByLines_30 : decode cX4_judgementByLines 30 = .ok (.iload 5, 2) := by decide +kernel
theorem dX4_judgementByLines_32 : decode cX4_judgementByLines 32 = .ok (.aload_n 0, 1) := by decide +kernel
theorem dX4_judgementByLines_33 : decode cX4_judgementByLines 33 = .ok (.aload_n 0, 1) := by decide +kernel
theorem dX4_judgementByLines_34 : decode cX4_judgementByLines 34 = .ok (.getfield 11, 3) := by decide +kernel
theorem dX4_judgementByLines_37 : decode cX4_judgementByLines 37 = .ok (.iload 6, 2) := by decide +kernel
theorem dX4_judgementByLines_39 : decode cX4_judgementByLines 39 = .ok (.aaload, 1) := by decide +kernel
theorem dX4_judgementByLines_40 : decode cX4_judgementByLines 40 = .ok (.iload_n 3, 1) := by decide +kernel
theorem dX4_judgementByLines_41 : decode cX4_judgementByLines 41 = .ok (.iload 4, 2) := by decide +kernel
theorem dX4_judgementByLines_43 : decode cX4_judgementByLines 43 = .ok (.invokevirtual 205, 3) := by decide +kernel
theorem dX4_judgementByLines_46 : decode cX4_judgementByLines 46 = .ok (.invokestatic 209, 3) := by decide +kernel
theorem dX4_judgementByLines_49 : decode cX4_judgementByLines 49 = .ok (.istore 5, 2) := by decide +kernel
theorem dX4_judgementByLines_51 : decode cX4_judgementByLines 51 = .ok (.iinc 6 1, 3) := by decide +kernel
theorem dX4_judgementByLines_54 : decode cX4_judgementByLines 54 = .ok (.goto (-48), 3) := by decide +kernel
theorem dX4_judgementByLines_57 : decode cX4_judgementByLines 57 = .ok (.iload 5, 2) := by decide +kernel
theorem dX4_judgementByLines_59 : decode cX4_judgementByLines 59 = .ok (.ireturn, 1) := by decide +kernel
set_option maxRecDepth 20000 in
theorem ggX4_judgementByMatch_X1_hasEither : GoodIn wsX4_judgementByMatch wsX1_hasEither := goodIn_r _ [5, 6, 21, 22, 23, 24, 25, 26, 27, 28, 29, 30] (by decide +kernel) (by decide +kernel)
set_option maxRecDepth 20000 in
theorem gX4_judgementByMatch_X1_hasEither : GoodIn wsX4_judgementByMatch (wsV RX4 197 RX1 yX1_hasEither wsX1_hasEither) := goodIn_app (goodIn_of _ (by decide +kernel)) ggX4_judgementByMatch_X1_hasEither
set_option maxRecDepth 20000 in
theorem ggX4_judgementByMatch_X4_isLivePlain : GoodIn wsX4_judgementByMatch wsX4_isLivePlain := goodIn_r _ [11, 12, 13, 14, 15, 4, 16, 17, 21, 22, 23, 24, 25, 26, 27, 28, 29, 30, 31, 32, 33, 34, 35, 36, 37, 38, 39, 40, 41, 42] (by decide +kernel) (by decide +kernel)
set_option maxRecDepth 20000 in
theorem gX4_judgementByMatch_X4_isLivePlain : GoodIn wsX4_judgementByMatch (wsV RX4 182 RX4 yX4_isLivePlain wsX4_isLivePlain) := goodIn_app (goodIn_of _ (by decide +kernel)) ggX4_judgementByMatch_X4_isLivePlain
set_option maxRecDepth 20000 in
theorem ggX4_judgementByMatch_X4_kindOf : GoodIn wsX4_judgementByMatch wsX4_kindOf := goodIn_r _ [20] (by decide +kernel) (by decide +kernel)
set_option maxRecDepth 20000 in
theorem gX4_judgementByMatch_X4_kindOf : GoodIn wsX4_judgementByMatch (va_wsS RX4 215 yX4_kindOf wsX4_kindOf) := goodIn_app (goodIn_of _ (by decide +kernel)) ggX4_judgementByMatch_X4_kindOf
theorem dX4_judgementByMatch_0 : decode cX4_judgementByMatch 0 = .ok (.aload_n 1, 1) := by decide +kernel
theorem dX4_judgementByMatch_1 : decode cX4_judgementByMatch 1 = .ok (.getfield 155, 3) := by decide +kernel
theorem dX4_judgementByMatch_4 : decode cX4_judgementByMatch 4 = .ok (.iconst 1, 1) := by decide +kernel
theorem dX4_judgementByMatch_5 : decode cX4_judgementByMatch 5 = .ok (.if_icmp .ne 14, 3) := by decide +kernel
theorem dX4_judgementByMatch_8 : decode cX4_judgementByMatch 8 = .ok (.aload_n 1, 1) := by decide +kernel
theorem dX4_judgementByMatch_9 : decode cX4_judgementByMatch 9 = .ok (.iload_n 2, 1) := by decide +kernel
theorem dX4_judgementByMatch_10 : decode cX4_judgementByMatch 10 = .ok (.iload_n 3, 1) := by decide +kernel
theorem dX4_judgementByMatch_11 : decode cX4_judgementByMatch 11 = .ok (.invokevirtual 197, 3) := by decide +kernel
theorem dX4_judgementByMatch_14 : decode cX4_judgementByMatch 14 = .ok (.ifCond .eq 5, 3) := by decide +kernel
theorem dX4_judgementByMatch_17 : decode cX4_judgementByMatch 17 = .ok (.iconst 0, 1) := by decide +kernel
theorem dX4_judgementByMatch_18 : decode cX4_judgementByMatch 18 = .ok (.ireturn, 1) := by decide +kernel
theorem dX4_judgementByMatch_19 : decode cX4_judgementByMatch 19 = .ok (.aload_n 0, 1) := by decide +kernel
theorem dX4_judgementByMatch_20 : decode cX4_judgementByMatch 20 = .ok (.aload_n 1, 1) := by decide +kernel
theorem dX4_judgementByMatch_21 : decode cX4_judgementByMatch 21 = .ok (.invokevirtual 182, 3) := by decide +kernel
theorem dX4_judgementByMatch_24 : decode cX4_judgementByMatch 24 = .ok (.ifCond .ne 5, 3) := by decide +kernel
theorem dX4_judgementByMatch_27 : decode cX4_judgementByMatch 27 = .ok (.iconst 5, 1) := by decide +kernel
theorem dX4_judgementByMatch_28 : decode cX4_judgementByMatch 28 = .ok (.ireturn, 1) := by decide +kernel
theorem dX4_judgementByMatch_29 : decode cX4_judgementByMatch 29 = .ok (.aload_n 1, 1) := by decide +kernel
theorem dX4_judgementByMatch_30 : decode cX4_judgementByMatch 30 = .ok (.getfield 65, 3) := by decide +kernel
theorem dX4_judgementByMatch_33 : decode cX4_judgementByMatch 33 = .ok (.iload_n 2, 1) := by decide +kernel
theorem dX4_judgementByMatch_34 : decode cX4_judgementByMatch 34 = .ok (.if_icmp .ne 5, 3) := by decide +kernel
theorem dX4_judgementByMatch_37 : decode cX4_judgementByMatch 37 = .ok (.iconst 2, 1) := by decide +kernel
theorem dX4_judgementByMatch_38 : decode cX4_judgementByMatch 38 = .ok (.ireturn, 1) := by decide +kernel
theorem dX4_judgementByMatch_39 : decode cX4_judgementByMatch 39 = .ok (.aload_n 1, 1) := by decide +kernel
theorem dX4_judgementByMatch_40 : decode cX4_judgementByMatch 40 = .ok (.getfield 65, 3) := by decide +kernel
theorem dX4_judgementByMatch_43 : decode cX4_judgementByMatch 43 = .ok (.invokestatic 215, 3) := by decide +kernel
theorem dX4_judgementByMatch_46 : decode cX4_judgementByMatch 46 = .ok (.iload_n 2, 1) := by decide +kernel
theorem dX4_judgementByMatch_47 : decode cX4_judgementByMatch 47 = .ok (.invokestatic 215, 3) := by decide +kernel
theorem dX4_judgementByMatch_50 : decode cX4_judgementByMatch 50 = .ok (.if_icmp .ne 7, 3) := by decide +kernel
theorem dX4_judgementByMatch_53 : decode cX4_judgementByMatch 53 = .ok (.iconst 3, 1) := by decide +kernel
theorem dX4_judgementByMatch_54 : decode cX4_judgementByMatch 54 = .ok (.goto 4, 3) := by decide +kernel
theorem dX4_judgementByMatch_57 : decode cX4_judgementByMatch 57 = .ok (.iconst 4, 1) := by decide +kernel
theorem dX4_judgementByMatch_58 : decode cX4_judgementByMatch 58 = .ok (.ireturn, 1) := by decide +kernel
set_option maxRecDepth 20000 in
theorem ggX4_isLivePlain_X1_hasEnded : GoodIn wsX4_isLivePlain wsX1_hasEnded := goodIn_r _ [6, 7, 8, 9, 10, 11, 12, 13, 14, 15, 16, 17] (by decide +kernel) (by decide +kernel)
set_option maxRecDepth 20000 in
theorem gX4_isLivePlain_X1_hasEnded : GoodIn wsX4_isLivePlain (wsV RX4 193 RX1 yX1_hasEnded wsX1_hasEnded) := goodIn_app (goodIn_of _ (by decide +kernel)) ggX4_isLivePlain_X1_hasEnded
theorem dX4_isLivePlain_0 : decode cX4_isLivePlain 0 = .ok (.aload_n 1, 1) := by decide +kernel
theorem dX4_isLivePlain_1 : decode cX4_isLivePlain 1 = .ok (.getfield 155, 3) := by decide +kernel
theorem dX4_isLivePlain_4 : decode cX4_isLivePlain 4 = .ok (.ifCond .ne 18, 3) := by decide +kernel
theorem dX4_isLivePlain_7 : decode cX4_isLivePlain 7 = .ok (.aload_n 1, 1) := by decide +kernel
theorem dX4_isLivePlain_8 : decode cX4_isLivePlain 8 = .ok (.aload_n 0, 1) := by decide +kernel
theorem dX4_isLivePlain_9 : decode cX4_isLivePlain 9 = .ok (.getfield 146, 3) := by decide +kernel
theorem dX4_isLivePlain_12 : decode cX4_isLivePlain 12 = .ok (.invokevirtual 193, 3) := by decide +kernel
theorem dX4_isLivePlain_15 : decode cX4_isLivePlain 15 = .ok (.ifCond .ne 7, 3) := by decide +kernel
theorem dX4_isLivePlain_18 : decode cX4_isLivePlain 18 = .ok (.iconst 1, 1) := by decide +kernel
theorem dX4_isLivePlain_19 : decode cX4_isLivePlain 19 = .ok (.goto 4, 3) := by decide +kernel
theorem dX4_isLivePlain_22 : decode cX4_isLivePlain 22 = .ok (.iconst 0, 1) := by decide +kernel
theorem dX4_isLivePlain_23 : decode cX4_isLivePlain 23 = .ok (.ireturn, 1) := by decide +kernel
theorem dX4_kindOf_0 : decode cX4_kindOf 0 = .ok (.iload_n 0, 1) := by decide +kernel
theorem dX4_kindOf_1 : decode cX4_kindOf 1 = .ok (.iconst 3, 1) := by decide +kernel
theorem dX4_kindOf_2 : decode cX4_kindOf 2 = .ok (.irem, 1) := by decide +kernel
theorem dX4_kindOf_3 : decode cX4_kindOf 3 = .ok (.ireturn, 1) := by decide +kernel
theorem dX4_authorityOf_0 : decode cX4_authorityOf 0 = .ok (.aload_n 0, 1) := by decide +kernel
theorem dX4_authorityOf_1 : decode cX4_authorityOf 1 = .ok (.ifnonnull 7, 3) := by decide +kernel
theorem dX4_authorityOf_4 : decode cX4_authorityOf 4 = .ok (.iconst (-1), 1) := by decide +kernel
theorem dX4_authorityOf_5 : decode cX4_authorityOf 5 = .ok (.goto 7, 3) := by decide +kernel
theorem dX4_authorityOf_8 : decode cX4_authorityOf 8 = .ok (.aload_n 0, 1) := by decide +kernel
theorem dX4_authorityOf_9 : decode cX4_authorityOf 9 = .ok (.getfield 219, 3) := by decide +kernel
theorem dX4_authorityOf_12 : decode cX4_authorityOf 12 = .ok (.ireturn, 1) := by decide +kernel
set_option maxRecDepth 20000 in
theorem ggX4_isGood_X4_isSameAt : GoodIn wsX4_isGood wsX4_isSameAt := goodIn_r _ [5] (by decide +kernel) (by decide +kernel)
set_option maxRecDepth 20000 in
theorem gX4_isGood_X4_isSameAt : GoodIn wsX4_isGood (va_wsS RX4 228 yX4_isSameAt wsX4_isSameAt) := goodIn_app (goodIn_of _ (by decide +kernel)) ggX4_isGood_X4_isSameAt
set_option maxRecDepth 20000 in
theorem ggX4_isGood_X4_isInRevokedSpan : GoodIn wsX4_isGood wsX4_isInRevokedSpan := goodIn_r _ [9, 10, 11, 12, 13, 14, 15, 16, 17, 18, 19, 60, 61, 62, 63, 64, 65, 66, 67, 68, 69, 70, 71, 53, 54, 55, 56, 57, 58, 59, 72, 73, 74] (by decide +kernel) (by decide +kernel)
set_option maxRecDepth 20000 in
theorem gX4_isGood_X4_isInRevokedSpan : GoodIn wsX4_isGood (wsV RX4 238 RX4 yX4_isInRevokedSpan wsX4_isInRevokedSpan) := goodIn_app (goodIn_of _ (by decide +kernel)) ggX4_isGood_X4_isInRevokedSpan
set_option maxRecDepth 20000 in
theorem ggX4_isGood_X4_hasAuthority : GoodIn wsX4_isGood wsX4_hasAuthority := goodIn_r _ [23, 24, 25, 1, 26, 27, 28, 29, 30, 31, 32, 33, 34, 35, 36, 37, 38, 39, 40, 41, 42, 43, 44, 45, 46, 47, 48, 49, 50, 51, 52, 3, 4, 5, 60, 61, 62, 63, 64, 65, 66, 67, 68, 69, 70, 71, 75, 76, 77, 78, 79, 80, 81, 82, 83, 84, 85, 86, 87, 88] (by decide +kernel) (by decide +kernel)
set_option maxRecDepth 20000 in
theorem gX4_isGood_X4_hasAuthority : GoodIn wsX4_isGood (wsV RX4 242 RX4 yX4_hasAuthority wsX4_hasAuthority) := goodIn_app (goodIn_of _ (by decide +kernel)) ggX4_isGood_X4_hasAuthority
theorem dX4_isGood_0 : decode cX4_isGood 0 = .ok (.aload_n 1, 1) := by decide +kernel
theorem dX4_isGood_1 : decode cX4_isGood 1 = .ok (.getfield 222, 3) := by decide +kernel
theorem dX4_isGood_4 : decode cX4_isGood 4 = .ok (.aload_n 1, 1) := by decide +kernel
theorem dX4_isGood_5 : decode cX4_isGood 5 = .ok (.getfield 225, 3) := by decide +kernel
theorem dX4_isGood_8 : decode cX4_isGood 8 = .ok (.iload_n 2, 1) := by decide +kernel
theorem dX4_isGood_9 : decode cX4_isGood 9 = .ok (.invokestatic 228, 3) := by decide +kernel
theorem dX4_isGood_12 : decode cX4_isGood 12 = .ok (.ifCond .eq 50, 3) := by decide +kernel
theorem dX4_isGood_15 : decode cX4_isGood 15 = .ok (.aload_n 0, 1) := by decide +kernel
theorem dX4_isGood_16 : decode cX4_isGood 16 = .ok (.getfield 146, 3) := by decide +kernel
theorem dX4_isGood_19 : decode cX4_isGood 19 = .ok (.aload_n 1, 1) := by decide +kernel
theorem dX4_isGood_20 : decode cX4_isGood 20 = .ok (.getfield 232, 3) := by decide +kernel
theorem dX4_isGood_23 : decode cX4_isGood 23 = .ok (.if_icmp .lt 39, 3) := by decide +kernel
theorem dX4_isGood_26 : decode cX4_isGood 26 = .ok (.aload_n 0, 1) := by decide +kernel
theorem dX4_isGood_27 : decode cX4_isGood 27 = .ok (.getfield 146, 3) := by decide +kernel
theorem dX4_isGood_30 : decode cX4_isGood 30 = .ok (.aload_n 1, 1) := by decide +kernel
theorem dX4_isGood_31 : decode cX4_isGood 31 = .ok (.getfield 235, 3) := by decide +kernel
theorem dX4_isGood_34 : decode cX4_isGood 34 = .ok (.if_icmp .gt 28, 3) := by decide +kernel
theorem dX4_isGood_37 : decode cX4_isGood 37 = .ok (.aload_n 0, 1) := by decide +kernel
theorem dX4_isGood_38 : decode cX4_isGood 38 = .ok (.aload_n 1, 1) := by decide +kernel
theorem dX4_isGood_39 : decode cX4_isGood 39 = .ok (.invokevirtual 238, 3) := by decide +kernel
theorem dX4_isGood_42 : decode cX4_isGood 42 = .ok (.ifCond .ne 20, 3) := by decide +kernel
theorem dX4_isGood_45 : decode cX4_isGood 45 = .ok (.aload_n 0, 1) := by decide +kernel
theorem dX4_isGood_46 : decode cX4_isGood 46 = .ok (.aload_n 1, 1) := by decide +kernel
theorem dX4_isGood_47 : decode cX4_isGood 47 = .ok (.getfield 219, 3) := by decide +kernel
theorem dX4_isGood_50 : decode cX4_isGood 50 = .ok (.iload_n 2, 1) := by decide +kernel
theorem dX4_isGood_51 : decode cX4_isGood 51 = .ok (.iload_n 3, 1) := by decide +kernel
theorem dX4_isGood_52 : decode cX4_isGood 52 = .ok (.invokevirtual 242, 3) := by decide +kernel
theorem dX4_isGood_55 : decode cX4_isGood 55 = .ok (.ifCond .eq 7, 3) := by decide +kernel
theorem dX4_isGood_58 : decode cX4_isGood 58 = .ok (.iconst 1, 1) := by decide +kernel
theorem dX4_isGood_59 : decode cX4_isGood 59 = .ok (.goto 4, 3) := by decide +kernel
theorem dX4_isGood_62 : decode cX4_isGood 62 = .ok (.iconst 0, 1) := by decide +kernel
theorem dX4_isGood_63 : decode cX4_isGood 63 = .ok (.ireturn, 1) := by decide +kernel
set_option maxRecDepth 20000 in
theorem ggX4_hasAuthority_X1_hasEnded : GoodIn wsX4_hasAuthority wsX1_hasEnded := goodIn_r _ [8, 9, 46, 47, 48, 49, 50, 51, 52, 53, 54, 55] (by decide +kernel) (by decide +kernel)
set_option maxRecDepth 20000 in
theorem gX4_hasAuthority_X1_hasEnded : GoodIn wsX4_hasAuthority (wsV RX4 193 RX1 yX1_hasEnded wsX1_hasEnded) := goodIn_app (goodIn_of _ (by decide +kernel)) ggX4_hasAuthority_X1_hasEnded
set_option maxRecDepth 20000 in
theorem ggX4_hasAuthority_X1_covers : GoodIn wsX4_hasAuthority wsX1_covers := goodIn_r _ [13, 14, 15, 16, 17, 18, 19, 20, 21, 7, 22, 23, 24, 25, 26, 27, 28, 29, 30, 31, 32, 33, 46, 47, 48, 49, 50, 51, 52, 53, 54, 55, 56, 57, 58, 59] (by decide +kernel) (by decide +kernel)
set_option maxRecDepth 20000 in
theorem gX4_hasAuthority_X1_covers : GoodIn wsX4_hasAuthority (wsV RX4 164 RX1 yX1_covers wsX1_covers) := goodIn_app (goodIn_of _ (by decide +kernel)) ggX4_hasAuthority_X1_covers
theorem dX4_hasAuthority_0 : decode cX4_hasAuthority 0 = .ok (.iconst 0, 1) := by decide +kernel
theorem dX4_hasAuthority_1 : decode cX4_hasAuthority 1 = .ok (.istore 4, 2) := by decide +kernel
theorem dX4_hasAuthority_3 : decode cX4_hasAuthority 3 = .ok (.iload 4, 2) := by decide +kernel
theorem dX4_hasAuthority_5 : decode cX4_hasAuthority 5 = .ok (.aload_n 0, 1) := by decide +kernel
theorem dX4_hasAuthority_6 : decode cX4_hasAuthority 6 = .ok (.getfield 47, 3) := by decide +kernel
theorem dX4_hasAuthority_9 : decode cX4_hasAuthority 9 = .ok (.if_icmp .ge 60, 3) := by decide +kernel
theorem dX4_hasAuthority_12 : decode cX4_hasAuthority 12 = .ok (.aload_n 0, 1) := by decide +kernel
theorem dX4_hasAuthority_13 : decode cX4_hasAuthority 13 = .ok (.getfield 11, 3) := by decide +kernel
theorem dX4_hasAuthority_16 : decode cX4_hasAuthority 16 = .ok (.iload 4, 2) := by decide +kernel
theorem dX4_hasAuthority_18 : decode cX4_hasAuthority 18 = .ok (.aaload, 1) := by decide +kernel
theorem dX4_hasAuthority_19 : decode cX4_hasAuthority 19 = .ok (.astore 5, 2) := by decide +kernel
theorem dX4_hasAuthority_21 : decode cX4_hasAuthority 21 = .ok (.aload 5, 2) := by decide +kernel
theorem dX4_hasAuthority_23 : decode cX4_hasAuthority 23 = .ok (.getfield 155, 3) := by decide +kernel
theorem dX4_hasAuthority_26 : decode cX4_hasAuthority 26 = .ok (.iconst 2, 1) := by decide +kernel
theorem dX4_hasAuthority_27 : decode cX4_hasAuthority 27 = .ok (.if_icmp .ne 36, 3) := by decide +kernel
theorem dX4_hasAuthority_30 : decode cX4_hasAuthority 30 = .ok (.aload 5, 2) := by decide +kernel
theorem dX4_hasAuthority_32 : decode cX4_hasAuthority 32 = .ok (.getfield 65, 3) := by decide +kernel
theorem dX4_hasAuthority_35 : decode cX4_hasAuthority 35 = .ok (.iload_n 1, 1) := by decide +kernel
theorem dX4_hasAuthority_36 : decode cX4_hasAuthority 36 = .ok (.if_icmp .ne 27, 3) := by decide +kernel
theorem dX4_hasAuthority_39 : decode cX4_hasAuthority 39 = .ok (.aload 5, 2) := by decide +kernel
theorem dX4_hasAuthority_41 : decode cX4_hasAuthority 41 = .ok (.aload_n 0, 1) := by decide +kernel
theorem dX4_hasAuthority_42 : decode cX4_hasAuthority 42 = .ok (.getfield 146, 3) := by decide +kernel
theorem dX4_hasAuthority_45 : decode cX4_hasAuthority 45 = .ok (.invokevirtual 193, 3) := by decide +kernel
theorem dX4_hasAuthority_48 : decode cX4_hasAuthority 48 = .ok (.ifCond .ne 15, 3) := by decide +kernel
theorem dX4_hasAuthority_51 : decode cX4_hasAuthority 51 = .ok (.aload 5, 2) := by decide +kernel
theorem dX4_hasAuthority_53 : decode cX4_hasAuthority 53 = .ok (.iload_n 2, 1) := by decide +kernel
theorem dX4_hasAuthority_54 : decode cX4_hasAuthority 54 = .ok (.iload_n 3, 1) := by decide +kernel
theorem dX4_hasAuthority_55 : decode cX4_hasAuthority 55 = .ok (.invokevirtual 164, 3) := by decide +kernel
theorem dX4_hasAuthority_58 : decode cX4_hasAuthority 58 = .ok (.ifCond .eq 5, 3) := by decide +kernel
theorem dX4_hasAuthority_61 : decode cX4_hasAuthority 61 = .ok (.iconst 1, 1) := by decide +kernel
theorem dX4_hasAuthority_62 : decode cX4_hasAuthority 62 = .ok (.ireturn, 1) := by decide +kernel
theorem dX4_hasAuthority_63 : decode cX4_hasAuthority 63 = .ok (.iinc 4 1, 3) := by decide +kernel
theorem dX4_hasAuthority_66 : decode cX4_hasAuthority 66 = .ok (.goto (-63), 3) := by decide +kernel
theorem dX4_hasAuthority_69 : decode cX4_hasAuthority 69 = .ok (.iconst 0, 1) := by decide +kernel
theorem dX4_hasAuthority_70 : decode cX4_hasAuthority 70 = .ok (.ireturn, 1) := by decide +kernel
set_option maxRecDepth 20000 in
theorem ggX4_isInRevokedSpan_X3_holds : GoodIn wsX4_isInRevokedSpan wsX3_holds := goodIn_r _ [7, 8, 9, 10, 30, 31, 32] (by decide +kernel) (by decide +kernel)
set_option maxRecDepth 20000 in
theorem gX4_isInRevokedSpan_X3_holds : GoodIn wsX4_isInRevokedSpan (wsV RX4 248 RX3 yX3_holds wsX3_holds) := goodIn_app (goodIn_of _ (by decide +kernel)) ggX4_isInRevokedSpan_X3_holds
theorem dX4_isInRevokedSpan_0 : decode cX4_isInRevokedSpan 0 = .ok (.iconst 0, 1) := by decide +kernel
theorem dX4_isInRevokedSpan_1 : decode cX4_isInRevokedSpan 1 = .ok (.istore_n 2, 1) := by decide +kernel
theorem dX4_isInRevokedSpan_2 : decode cX4_isInRevokedSpan 2 = .ok (.iload_n 2, 1) := by decide +kernel
theorem dX4_isInRevokedSpan_3 : decode cX4_isInRevokedSpan 3 = .ok (.aload_n 0, 1) := by decide +kernel
theorem dX4_isInRevokedSpan_4 : decode cX4_isInRevokedSpan 4 = .ok (.getfield 84, 3) := by decide +kernel
theorem dX4_isInRevokedSpan_7 : decode cX4_isInRevokedSpan 7 = .ok (.if_icmp .ge 31, 3) := by decide +kernel
theorem dX4_isInRevokedSpan_10 : decode cX4_isInRevokedSpan 10 = .ok (.aload_n 0, 1) := by decide +kernel
theorem dX4_isInRevokedSpan_11 : decode cX4_isInRevokedSpan 11 = .ok (.getfield 23, 3) := by decide +kernel
theorem dX4_isInRevokedSpan_14 : decode cX4_isInRevokedSpan 14 = .ok (.iload_n 2, 1) := by decide +kernel
theorem dX4_isInRevokedSpan_15 : decode cX4_isInRevokedSpan 15 = .ok (.aaload, 1) := by decide +kernel
theorem dX4_isInRevokedSpan_16 : decode cX4_isInRevokedSpan 16 = .ok (.aload_n 1, 1) := by decide +kernel
theorem dX4_isInRevokedSpan_17 : decode cX4_isInRevokedSpan 17 = .ok (.getfield 219, 3) := by decide +kernel
theorem dX4_isInRevokedSpan_20 : decode cX4_isInRevokedSpan 20 = .ok (.aload_n 1, 1) := by decide +kernel
theorem dX4_isInRevokedSpan_21 : decode cX4_isInRevokedSpan 21 = .ok (.getfield 245, 3) := by decide +kernel
theorem dX4_isInRevokedSpan_24 : decode cX4_isInRevokedSpan 24 = .ok (.invokevirtual 248, 3) := by decide +kernel
theorem dX4_isInRevokedSpan_27 : decode cX4_isInRevokedSpan 27 = .ok (.ifCond .eq 5, 3) := by decide +kernel
theorem dX4_isInRevokedSpan_30 : decode cX4_isInRevokedSpan 30 = .ok (.iconst 1, 1) := by decide +kernel
theorem dX4_isInRevokedSpan_31 : decode cX4_isInRevokedSpan 31 = .ok (.ireturn, 1) := by decide +kernel
theorem dX4_isInRevokedSpan_32 : decode cX4_isInRevokedSpan 32 = .ok (.iinc 2 1, 3) := by decide +kernel
theorem dX4_isInRevokedSpan_35 : decode cX4_isInRevokedSpan 35 = .ok (.goto (-33), 3) := by decide +kernel
theorem dX4_isInRevokedSpan_38 : decode cX4_isInRevokedSpan 38 = .ok (.iconst 0, 1) := by decide +kernel
theorem dX4_isInRevokedSpan_39 : decode cX4_isInRevokedSpan 39 = .ok (.ireturn, 1) := by decide +kernel
set_option maxRecDepth 20000 in
theorem ggX4_countRevokedCertificates_X4_isInRevokedSpan : GoodIn wsX4_countRevokedCertificates wsX4_isInRevokedSpan := goodIn_r _ [7, 8, 9, 10, 11, 12, 13, 14, 15, 16, 17, 18, 19, 20, 21, 22, 23, 24, 25, 26, 27, 28, 29, 30, 31, 32, 33, 34, 35, 36, 37, 38, 39] (by decide +kernel) (by decide +kernel)
set_option maxRecDepth 20000 in
theorem gX4_countRevokedCertificates_X4_isInRevokedSpan : GoodIn wsX4_countRevokedCertificates (wsV RX4 238 RX4 yX4_isInRevokedSpan wsX4_isInRevokedSpan) := goodIn_app (goodIn_of _ (by decide +kernel)) ggX4_countRevokedCertificates_X4_isInRevokedSpan
theorem dX4_countRevokedCertificates_0 : decode cX4_countRevokedCertificates 0 = .ok (.iconst 0, 1) := by decide +kernel
theorem dX4_countRevokedCertificates_1 : decode cX4_countRevokedCertificates 1 = .ok (.istore_n 1, 1) := by decide +kernel
theorem dX4_countRevokedCertificates_2 : decode cX4_countRevokedCertificates 2 = .ok (.iconst 0, 1) := by decide +kernel
theorem dX4_countRevokedCertificates_3 : decode cX4_countRevokedCertificates 3 = .ok (.istore_n 2, 1) := by decide +kernel
theorem dX4_countRevokedCertificates_4 : decode cX4_countRevokedCertificates 4 = .ok (.iload_n 2, 1) := by decide +kernel
theorem dX4_countRevokedCertificates_5 : decode cX4_countRevokedCertificates 5 = .ok (.aload_n 0, 1) := by decide +kernel
theorem dX4_countRevokedCertificates_6 : decode cX4_countRevokedCertificates 6 = .ok (.getfield 71, 3) := by decide +kernel
theorem dX4_countRevokedCertificates_9 : decode cX4_countRevokedCertificates 9 = .ok (.if_icmp .ge 25, 3) := by decide +kernel
theorem dX4_countRevokedCertificates_12 : decode cX4_countRevokedCertificates 12 = .ok (.aload_n 0, 1) := by decide +kernel
theorem dX4_countRevokedCertificates_13 : decode cX4_countRevokedCertificates 13 = .ok (.aload_n 0, 1) := by decide +kernel
theorem dX4_countRevokedCertificates_14 : decode cX4_countRevokedCertificates 14 = .ok (.getfield 17, 3) := by decide +kernel
theorem dX4_countRevokedCertificates_17 : decode cX4_countRevokedCertificates 17 = .ok (.iload_n 2, 1) := by decide +kernel
theorem dX4_countRevokedCertificates_18 : decode cX4_countRevokedCertificates 18 = .ok (.aaload, 1) := by decide +kernel
theorem dX4_countRevokedCertificates_19 : decode cX4_countRevokedCertificates 19 = .ok (.invokevirtual 238, 3) := by decide +kernel
theorem dX4_countRevokedCertificates_22 : decode cX4_countRevokedCertificates 22 = .ok (.ifCond .eq 6, 3) := by decide +kernel
theorem dX4_countRevokedCertificates_25 : decode cX4_countRevokedCertificates 25 = .ok (.iinc 1 1, 3) := by decide +kernel
theorem dX4_countRevokedCertificates_28 : decode cX4_countRevokedCertificates 28 = .ok (.iinc 2 1, 3) := by decide +kernel
theorem dX4_countRevokedCertificates_31 : decode cX4_countRevokedCertificates 31 = .ok (.goto (-27), 3) := by decide +kernel
theorem dX4_countRevokedCertificates_34 : decode cX4_countRevokedCertificates 34 = .ok (.iload_n 1, 1) := by decide +kernel
theorem dX4_countRevokedCertificates_35 : decode cX4_countRevokedCertificates 35 = .ok (.ireturn, 1) := by decide +kernel
theorem dX4_isSameAt_0 : decode cX4_isSameAt 0 = .ok (.iload_n 1, 1) := by decide +kernel
theorem dX4_isSameAt_1 : decode cX4_isSameAt 1 = .ok (.istore_n 3, 1) := by decide +kernel
theorem dX4_isSameAt_2 : decode cX4_isSameAt 2 = .ok (.iload_n 2, 1) := by decide +kernel
theorem dX4_isSameAt_3 : decode cX4_isSameAt 3 = .ok (.istore 4, 2) := by decide +kernel
theorem dX4_isSameAt_5 : decode cX4_isSameAt 5 = .ok (.iconst 3, 1) := by decide +kernel
theorem dX4_isSameAt_6 : decode cX4_isSameAt 6 = .ok (.istore 5, 2) := by decide +kernel
theorem dX4_isSameAt_8 : decode cX4_isSameAt 8 = .ok (.iload 5, 2) := by decide +kernel
theorem dX4_isSameAt_10 : decode cX4_isSameAt 10 = .ok (.ifCond .lt 57, 3) := by decide +kernel
theorem dX4_isSameAt_13 : decode cX4_isSameAt 13 = .ok (.iload_n 0, 1) := by decide +kernel
theorem dX4_isSameAt_14 : decode cX4_isSameAt 14 = .ok (.iload 5, 2) := by decide +kernel
theorem dX4_isSameAt_16 : decode cX4_isSameAt 16 = .ok (.ishr, 1) := by decide +kernel
theorem dX4_isSameAt_17 : decode cX4_isSameAt 17 = .ok (.iconst 1, 1) := by decide +kernel
theorem dX4_isSameAt_18 : decode cX4_isSameAt 18 = .ok (.iand, 1) := by decide +kernel
theorem dX4_isSameAt_19 : decode cX4_isSameAt 19 = .ok (.iconst 1, 1) := by decide +kernel
theorem dX4_isSameAt_20 : decode cX4_isSameAt 20 = .ok (.if_icmp .ne 7, 3) := by decide +kernel
theorem dX4_isSameAt_23 : decode cX4_isSameAt 23 = .ok (.iconst 1, 1) := by decide +kernel
theorem dX4_isSameAt_24 : decode cX4_isSameAt 24 = .ok (.goto 4, 3) := by decide +kernel
theorem dX4_isSameAt_27 : decode cX4_isSameAt 27 = .ok (.iconst 0, 1) := by decide +kernel
theorem dX4_isSameAt_28 : decode cX4_isSameAt 28 = .ok (.istore 6, 2) := by decide +kernel
theorem dX4_isSameAt_30 : decode cX4_isSameAt 30 = .ok (.iload 6, 2) := by decide +kernel
theorem dX4_isSameAt_32 : decode cX4_isSameAt 32 = .ok (.ifCond .eq 17, 3) := by decide +kernel
theorem dX4_isSameAt_35 : decode cX4_isSameAt 35 = .ok (.iload_n 3, 1) := by decide +kernel
theorem dX4_isSameAt_36 : decode cX4_isSameAt 36 = .ok (.bipush 10, 2) := by decide +kernel
theorem dX4_isSameAt_38 : decode cX4_isSameAt 38 = .ok (.irem, 1) := by decide +kernel
theorem dX4_isSameAt_39 : decode cX4_isSameAt 39 = .ok (.iload 4, 2) := by decide +kernel
theorem dX4_isSameAt_41 : decode cX4_isSameAt 41 = .ok (.bipush 10, 2) := by decide +kernel
theorem dX4_isSameAt_43 : decode cX4_isSameAt 43 = .ok (.irem, 1) := by decide +kernel
theorem dX4_isSameAt_44 : decode cX4_isSameAt 44 = .ok (.if_icmp .eq 5, 3) := by decide +kernel
theorem dX4_isSameAt_47 : decode cX4_isSameAt 47 = .ok (.iconst 0, 1) := by decide +kernel
theorem dX4_isSameAt_48 : decode cX4_isSameAt 48 = .ok (.ireturn, 1) := by decide +kernel
theorem dX4_isSameAt_49 : decode cX4_isSameAt 49 = .ok (.iload_n 3, 1) := by decide +kernel
theorem dX4_isSameAt_50 : decode cX4_isSameAt 50 = .ok (.bipush 10, 2) := by decide +kernel
theorem dX4_isSameAt_52 : decode cX4_isSameAt 52 = .ok (.idiv, 1) := by decide +kernel
theorem dX4_isSameAt_53 : decode cX4_isSameAt 53 = .ok (.istore_n 3, 1) := by decide +kernel
theorem dX4_isSameAt_54 : decode cX4_isSameAt 54 = .ok (.iload 4, 2) := by decide +kernel
theorem dX4_isSameAt_56 : decode cX4_isSameAt 56 = .ok (.bipush 10, 2) := by decide +kernel
theorem dX4_isSameAt_58 : decode cX4_isSameAt 58 = .ok (.idiv, 1) := by decide +kernel
theorem dX4_isSameAt_59 : decode cX4_isSameAt 59 = .ok (.istore 4, 2) := by decide +kernel
theorem dX4_isSameAt_61 : decode cX4_isSameAt 61 = .ok (.iinc 5 (-1), 3) := by decide +kernel
theorem dX4_isSameAt_64 : decode cX4_isSameAt 64 = .ok (.goto (-56), 3) := by decide +kernel
theorem dX4_isSameAt_67 : decode cX4_isSameAt 67 = .ok (.iconst 1, 1) := by decide +kernel
theorem dX4_isSameAt_68 : decode cX4_isSameAt 68 = .ok (.ireturn, 1) := by decide +kernel
end
section
/-! THE POOL: every object and array of class and model by its address; int fields by number, reference fields by number, rows -/
abbrev hS : Type := List Nat × (Nat → Nat) × (Nat → Nat → Int32) × (Nat → Nat → Option Nat) × (Nat → Nat) × (Nat → Nat → Int32) × (Nat → Nat → Option Nat)
def sL (S : hS) : List Nat := S.1
def sK (S : hS) : Nat → Nat := S.2.1
def sF (S : hS) : Nat → Nat → Int32 := S.2.2.1
def sR (S : hS) : Nat → Nat → Option Nat := S.2.2.2.1
def sN (S : hS) : Nat → Nat := S.2.2.2.2.1
def sA (S : hS) : Nat → Nat → Int32 := S.2.2.2.2.2.1
def sB (S : hS) : Nat → Nat → Option Nat := S.2.2.2.2.2.2
def u2 {α : Type} (f : Nat → Nat → α) (i j : Nat) (v : α) : Nat → Nat → α := fun x y => if x = i ∧ y = j then v else f x y
def uF (S : hS) (k a : Nat) (v : Int32) : hS := (sL S, sK S, u2 (sF S) k a v, sR S, sN S, sA S, sB S)
def uR (S : hS) (k a : Nat) (v : Option Nat) : hS := (sL S, sK S, sF S, u2 (sR S) k a v, sN S, sA S, sB S)
def uA (S : hS) (a j : Nat) (v : Int32) : hS := (sL S, sK S, sF S, sR S, sN S, u2 (sA S) a j v, sB S)
def uB (S : hS) (a j : Nat) (v : Option Nat) : hS := (sL S, sK S, sF S, sR S, sN S, sA S, u2 (sB S) a j v)
def nO (S : hS) (k q : Nat) : hS := (sL S ++ [q], va_up (sK S) q k, fun x => va_up (sF S x) q 0, fun x => va_up (sR S x) q none, sN S, sA S, sB S)
def nA (S : hS) (k q n : Nat) : hS := (sL S ++ [q], va_up (sK S) q k, sF S, sR S, va_up (sN S) q n, va_up (sA S) q (fun _ => 0), va_up (sB S) q (fun _ => none))
theorem u2_at {α : Type} (f : Nat → Nat → α) (i j : Nat) (v : α) (x y : Nat) : u2 f i j v x y = if x = i ∧ y = j then v else f x y := rfl
theorem u2_row {α : Type} (f : Nat → Nat → α) (i j : Nat) (v : α) : u2 f i j v i = va_up (f i) j v := by funext y; simp [u2, va_up]
theorem u2_off {α : Type} (f : Nat → Nat → α) {i x : Nat} (j : Nat) (v : α) (h : x ≠ i) : u2 f i j v x = f x := by funext y; simp [u2, h]
theorem sL_uF (S : hS) (k a : Nat) (v : Int32) : sL (uF S k a v) = sL S := rfl
theorem sK_uF (S : hS) (k a : Nat) (v : Int32) : sK (uF S k a v) = sK S := rfl
theorem sF_uF (S : hS) (k a : Nat) (v : Int32) (x b : Nat) : sF (uF S k a v) x b = if x = k ∧ b = a then v else sF S x b := rfl
theorem sR_uF (S : hS) (k a : Nat) (v : Int32) : sR (uF S k a v) = sR S := rfl
theorem sN_uF (S : hS) (k a : Nat) (v : Int32) : sN (uF S k a v) = sN S := rfl
theorem sA_uF (S : hS) (k a : Nat) (v : Int32) : sA (uF S k a v) = sA S := rfl
theorem sB_uF (S : hS) (k a : Nat) (v : Int32) : sB (uF S k a v) = sB S := rfl
theorem sL_uR (S : hS) (k a : Nat) (v : Option Nat) : sL (uR S k a v) = sL S := rfl
theorem sK_uR (S : hS) (k a : Nat) (v : Option Nat) : sK (uR S k a v) = sK S := rfl
theorem sF_uR (S : hS) (k a : Nat) (v : Option Nat) : sF (uR S k a v) = sF S := rfl
theorem sR_uR (S : hS) (k a : Nat) (v : Option Nat) (x b : Nat) : sR (uR S k a v) x b = if x = k ∧ b = a then v else sR S x b := rfl
theorem sN_uR (S : hS) (k a : Nat) (v : Option Nat) : sN (uR S k a v) = sN S := rfl
theorem sA_uR (S : hS) (k a : Nat) (v : Option Nat) : sA (uR S k a v) = sA S := rfl
theorem sB_uR (S : hS) (k a : Nat) (v : Option Nat) : sB (uR S k a v) = sB S := rfl
theorem sL_uA (S : hS) (k a : Nat) (v : Int32) : sL (uA S k a v) = sL S := rfl
theorem sK_uA (S : hS) (k a : Nat) (v : Int32) : sK (uA S k a v) = sK S := rfl
theorem sF_uA (S : hS) (k a : Nat) (v : Int32) : sF (uA S k a v) = sF S := rfl
theorem sR_uA (S : hS) (k a : Nat) (v : Int32) : sR (uA S k a v) = sR S := rfl
theorem sN_uA (S : hS) (k a : Nat) (v : Int32) : sN (uA S k a v) = sN S := rfl
theorem sA_uA (S : hS) (k a : Nat) (v : Int32) (x b : Nat) : sA (uA S k a v) x b = if x = k ∧ b = a then v else sA S x b := rfl
theorem sB_uA (S : hS) (k a : Nat) (v : Int32) : sB (uA S k a v) = sB S := rfl
theorem sL_uB (S : hS) (k a : Nat) (v : Option Nat) : sL (uB S k a v) = sL S := rfl
theorem sK_uB (S : hS) (k a : Nat) (v : Option Nat) : sK (uB S k a v) = sK S := rfl
theorem sF_uB (S : hS) (k a : Nat) (v : Option Nat) : sF (uB S k a v) = sF S := rfl
theorem sR_uB (S : hS) (k a : Nat) (v : Option Nat) : sR (uB S k a v) = sR S := rfl
theorem sN_uB (S : hS) (k a : Nat) (v : Option Nat) : sN (uB S k a v) = sN S := rfl
theorem sA_uB (S : hS) (k a : Nat) (v : Option Nat) : sA (uB S k a v) = sA S := rfl
theorem sB_uB (S : hS) (k a : Nat) (v : Option Nat) (x b : Nat) : sB (uB S k a v) x b = if x = k ∧ b = a then v else sB S x b := rfl
theorem sL_nO (S : hS) (k q : Nat) : sL (nO S k q) = sL S ++ [q] := rfl
theorem sK_nO (S : hS) (k q : Nat) (b : Nat) : sK (nO S k q) b = if b = q then k else sK S b := rfl
theorem sF_nO (S : hS) (k q : Nat) (x b : Nat) : sF (nO S k q) x b = if b = q then 0 else sF S x b := rfl
theorem sR_nO (S : hS) (k q : Nat) (x b : Nat) : sR (nO S k q) x b = if b = q then none else sR S x b := rfl
theorem sN_nO (S : hS) (k q : Nat) : sN (nO S k q) = sN S := rfl
theorem sA_nO (S : hS) (k q : Nat) : sA (nO S k q) = sA S := rfl
theorem sB_nO (S : hS) (k q : Nat) : sB (nO S k q) = sB S := rfl
theorem sL_nA (S : hS) (k q n : Nat) : sL (nA S k q n) = sL S ++ [q] := rfl
theorem sK_nA (S : hS) (k q n : Nat) (b : Nat) : sK (nA S k q n) b = if b = q then k else sK S b := rfl
theorem sF_nA (S : hS) (k q n : Nat) : sF (nA S k q n) = sF S := rfl
theorem sR_nA (S : hS) (k q n : Nat) : sR (nA S k q n) = sR S := rfl
theorem sN_nA (S : hS) (k q n : Nat) (b : Nat) : sN (nA S k q n) b = if b = q then n else sN S b := rfl
theorem sA_nA (S : hS) (k q n : Nat) (b j : Nat) : sA (nA S k q n) b j = if b = q then 0 else sA S b j := by
  show va_up (sA S) q (fun _ => 0) b j = _
  unfold va_up
  by_cases h : b = q <;> simp [h]
theorem sB_nA (S : hS) (k q n : Nat) (b j : Nat) : sB (nA S k q n) b j = if b = q then none else sB S b j := by
  show va_up (sB S) q (fun _ => none) b j = _
  unfold va_up
  by_cases h : b = q <;> simp [h]
/-- an address of a kind -/
def isO (S : hS) (a k : Nat) : Prop := a ∈ sL S ∧ sK S a = k
/-- what a cell of a kind holds -/
def hC (cy : Nat → ClassId) (S : hS) (k a : Nat) : va_E := match k with
  | 0 => .inr (0, [.int (sF S 0 a), .int (sF S 1 a), .int (sF S 2 a), .int (sF S 3 a), .int (sF S 4 a), .int (sF S 5 a), .int (sF S 6 a)])
  | 1 => .inr (1, [.int (sF S 10 a), .int (sF S 11 a), .int (sF S 12 a), .int (sF S 13 a), va_rf (sR S 14 a), .int (sF S 15 a), .int (sF S 16 a), .int (sF S 17 a), .int (sF S 18 a), .int (sF S 19 a)])
  | 2 => .inr (2, [.int (sF S 20 a), .int (sF S 21 a), .int (sF S 22 a), .int (sF S 23 a)])
  | 3 => .inr (3, [.int (sF S 30 a), .int (sF S 31 a), .int (sF S 32 a)])
  | 4 => .inr (4, [va_rf (sR S 40 a), .int (sF S 41 a), va_rf (sR S 42 a), .int (sF S 43 a), va_rf (sR S 44 a), .int (sF S 45 a), .int (sF S 46 a), .int (sF S 47 a), .int (sF S 48 a), .int (sF S 49 a), .int (sF S 50 a), .int (sF S 51 a)])
  | 5 => .inr (5, [.int (sF S 60 a), .int (sF S 61 a), .int (sF S 62 a), .int (sF S 63 a), .int (sF S 64 a), va_rf (sR S 65 a), va_rf (sR S 66 a), va_rf (sR S 67 a), va_rf (sR S 68 a), va_rf (sR S 69 a), va_rf (sR S 70 a), va_rf (sR S 71 a), va_rf (sR S 72 a), va_rf (sR S 73 a), va_rf (sR S 74 a), va_rf (sR S 75 a), va_rf (sR S 76 a), .int (sF S 77 a), va_rf (sR S 78 a), va_rf (sR S 79 a), va_rf (sR S 80 a), va_rf (sR S 81 a), va_rf (sR S 82 a), va_rf (sR S 83 a), va_rf (sR S 84 a), .int (sF S 85 a), va_rf (sR S 86 a), va_rf (sR S 87 a), va_rf (sR S 88 a), .int (sF S 89 a), .int (sF S 90 a), .int (sF S 91 a)])
  | 6 => .inl (cy 0, sN S a, .inl (sA S a))
  | 7 => .inl (cy 1, sN S a, .inl (sA S a))
  | 8 => .inl (cy 2, sN S a, .inr (.inr (.inr (.inr (sB S a)))))
  | 9 => .inl (cy 3, sN S a, .inr (.inr (.inr (.inr (sB S a)))))
  | 10 => .inl (cy 4, sN S a, .inr (.inr (.inr (.inr (sB S a)))))
  | _ => .inl (cy 5, sN S a, .inr (.inr (.inr (.inr (sB S a)))))
def hE (cy : Nat → ClassId) (S : hS) (a : Nat) : va_E := hC cy S (sK S a) a
theorem hC_congr {cy : Nat → ClassId} {S T : hS} {k a : Nat} (h1 : ∀ x, sF T x a = sF S x a) (h2 : ∀ x, sR T x a = sR S x a) (h3 : sN T a = sN S a) (h4 : sA T a = sA S a) (h5 : sB T a = sB S a) : hC cy T k a = hC cy S k a := by
  unfold hC
  simp only [h1, h2, h3, h4, h5]
def hTY (cy : Nat → ClassId) : List (ClassId × FieldType) := [(cy 0, .int), (cy 1, .boolean), (cy 2, .object RX0), (cy 3, .object RX1), (cy 4, .object RX2), (cy 5, .object RX3), (cy 6, .long)]
abbrev hG : Type := va_G × (Nat → ClassId) × Nat
def hA (g : hG) : Nat → Prop := fun q => g.2.2 ≤ q
def hws (g : hG) (X : va_W) (S : hS) : va_W := X ++ va_pl (sL S) (hE g.2.1 S)
/-- the world: some cells X of others, and the pool -/
def hw (g : hG) (X : va_W) (S : hS) (H : Heap) : Prop := va_P g.1 vwCl (hws g X S) H ∧ va_D (hA g) (hws g X S)
theorem hE_of {g : hG} {S : hS} {a k : Nat} (h : isO S a k) : hE g.2.1 S a = hC g.2.1 S k a := by unfold hE; rw [h.2]
theorem hw_get {g : hG} {X : va_W} {S : hS} {a k : Nat} (h : isO S a k) : ∃ i : Nat, (hws g X S)[i]? = some (a, hE g.2.1 S a) ∧ (hws g X S)[i]? = some (a, hC g.2.1 S k a) := by
  obtain ⟨i, hi⟩ := va_pl_get (X := X) (f := hE g.2.1 S) h.1
  exact ⟨i, hi, by rw [← hE_of h]; exact hi⟩
theorem hw_set {g : hG} {X : va_W} {S T : hS} {A : Nat → Prop} {a i : Nat} {e : va_E} (hD : va_D A (hws g X S)) (ha : a ∈ sL S) (hi : (hws g X S)[i]? = some (a, hE g.2.1 S a)) (hL : sL T = sL S) (he : hE g.2.1 T a = e) (ho : ∀ b, b ≠ a → hE g.2.1 T b = hE g.2.1 S b) : (hws g X S).set i (a, e) = hws g X T := by
  unfold hws at *
  rw [va_pl_set hD ha hi, hL]
  refine congrArg (fun l => X ++ l) (va_pl_congr fun b => ?_)
  by_cases hb : b = a
  · subst hb
    rw [va_up_self, he]
  · rw [va_up_ne _ _ hb, ho b hb]
theorem hw_new {g : hG} {X : va_W} {S T : hS} {A : Nat → Prop} {q : Nat} {e : va_E} (hD : va_D A (hws g X S ++ [(q, e)])) (hL : sL T = sL S ++ [q]) (he : hE g.2.1 T q = e) (ho : ∀ b, b ≠ q → hE g.2.1 T b = hE g.2.1 S b) : hws g X S ++ [(q, e)] = hws g X T ∧ q ∉ sL S := by
  have hq : q ∉ sL S := va_pl_fresh2 (X := X) (f := hE g.2.1 S) (e := e) hD
  refine ⟨?_, hq⟩
  unfold hws
  rw [List.append_assoc, va_pl_push hq, hL]
  refine congrArg (fun l => X ++ l) (va_pl_congr fun b => ?_)
  by_cases hb : b = q
  · subst hb
    rw [va_up_self, he]
  · rw [va_up_ne _ _ hb, ho b hb]
/-! WHAT STAYS BESIDE THE HEAP: the classes, the tables' words, the strings, what the exceptions need -/
def hEx : List String := ["java/lang/IllegalArgumentException", "java/lang/IllegalStateException", "java/lang/IndexOutOfBoundsException"]
def hNF : List (String × Nat × String × String × String) := [("HostKeyring", 155, "HostKeyring$Line", "mark", "I"), ("HostKeyring", 65, "HostKeyring$Line", "key", "I"), ("HostKeyring", 158, "HostKeyring$Line", "seen", "I"), ("HostKeyring", 161, "HostKeyring$Line", "end", "I"), ("HostKeyring$Line", 64, "HostKeyring$Pattern", "isDenied", "Z"), ("HostKeyring", 219, "HostKeyring$Certificate", "authority", "I"), ("HostKeyring", 200, "HostKeyring$Certificate", "key", "I"), ("HostKeyring", 225, "HostKeyring$Certificate", "name", "I"), ("HostKeyring", 222, "HostKeyring$Certificate", "places", "I"), ("HostKeyring", 245, "HostKeyring$Certificate", "serial", "I"), ("HostKeyring", 232, "HostKeyring$Certificate", "first", "I"), ("HostKeyring", 235, "HostKeyring$Certificate", "last", "I")]
def hNM : List (String × Nat × MethodName) := [("HostKeyring", 34, yX1_init), ("HostKeyring$Pattern", 23, yX4_isSameAt)]
end
section
def hStr : List (String × Nat × String) := [("HostKeyring", 121, "nothing waits"), ("HostKeyring", 131, "both keys are the same"), ("HostKeyring", 138, "the old key is not trusted"), ("HostKeyring", 140, "the new key is revoked"), ("HostKeyring", 149, "it would be behind the last day"), ("HostKeyring", 168, "an argument is out of range"), ("HostKeyring", 172, "there is no such line"), ("HostKeyring", 175, "there is no such certificate"), ("HostKeyring", 177, "there are as many lines as may be"), ("HostKeyring", 76, "there are as many certificates as may be"), ("HostKeyring", 87, "as many spans were revoked as may be"), ("HostKeyring$Line", 39, "the line takes no more patterns")]
theorem h_castable_warm {E F : String} {s U : State} (hW : s.WarmedH U.vm) (h : (Cond.castable E F).before #[] s = true) : (Cond.castable E F).before #[] U = true := by
  obtain ⟨a, b, h1, h2, h3⟩ := Cond.castable_spec h
  have hal := hW.alike
  have f1 : U.vm.findClass E = some a := by rw [hal.findClass]; exact h1
  have f2 : U.vm.findClass F = some b := by rw [hal.findClass]; exact h2
  have f3 : U.vm.assignable a b = true := by rw [hal.assignable]; exact h3
  simp [Cond.before, Cond.holds, Cond.value, f1, f2, f3]
theorem h_nc_warm {E F : String} {s U : State} (hW : s.WarmedH U.vm) (h : va_Nc E F s) : va_Nc E F U := by
  obtain ⟨a, b, h1, h2, h3⟩ := h
  have hal := hW.alike
  exact ⟨a, b, by rw [hal.findClass]; exact h1, by rw [hal.findClass]; exact h2, by rw [hal.assignable]; exact h3⟩
def hDc : List MethodName := [⟨"java/lang/RuntimeException", "<init>", "(Ljava/lang/String;)V"⟩, ⟨"java/lang/Exception", "<init>", "(Ljava/lang/String;)V"⟩, ⟨"java/lang/Throwable", "<init>", "(Ljava/lang/String;)V"⟩]
def hk (g : hG) (U : State) (H : Heap) : Prop :=
  va_K g.1 vwCl (hTY g.2.1) U ∧ vx_Zq Bundle.tN "UNASSIGNED_STACK" Bundle.steD (hA g) U H ∧ vx_Zq Bundle.tN "SUPPRESSED_SENTINEL" Bundle.listD (hA g) U H ∧ (∀ w ∈ wsL_law, w.before #[] U = true) ∧
  (∀ q ∈ hNF, va_Nw (.fieldLinkNest q.1 q.2.1 q.2.2.1 q.2.2.2.1 q.2.2.2.2 "HostKeyring") U) ∧ (∀ q ∈ hNM, va_Nw (.methodLinkNest q.1 q.2.1 q.2.2 "HostKeyring") U) ∧
  (∀ C ∈ [RX0, RX1, RX2, RX3], va_AO C U) ∧ (∀ q ∈ hStr, ∃ a, vk_R q.1 q.2.1 q.2.2 a U) ∧ (∀ E ∈ hEx, (Cond.castable E E).before #[] U = true) ∧ (∀ E ∈ hEx, ∀ F ∈ hEx, E ≠ F → va_Nc E F U) ∧ (∀ y ∈ hDc, va_Nw (.declares y) U)
theorem hk_good : wsL_law.all goodWord = true := by decide +kernel
theorem hk_word {w : Cond} {g : hG} {U : State} {H : Heap} (h : hk g U H) (hw : w ∈ wsL_law) (args : Array Value) : w.before args U = true :=
  word_at (s := U) (U := U) (State.WarmedH.refl U) (good_of_word (List.all_eq_true.mp hk_good w hw)) (h.2.2.2.1 w hw)
theorem hk_moved {g : hG} {s U : State} {H H1 : Heap} (h : hk g s H) (hW : s.WarmedH U.vm) (ho : ∀ q : Nat, q < H.size → ¬ hA g q → H1[q]? = H[q]?) : hk g U H1 := by
  obtain ⟨h1, h2, h3, h4, h5, h6, h7, h8, h9, h10, h11⟩ := h
  refine ⟨va_K.moved hW.alike h1, vx_Zq.moved hW.alike (h2.kept ho), vx_Zq.moved hW.alike (h3.kept ho), fun w hw => word_at hW (good_of_word (List.all_eq_true.mp hk_good w hw)) (h4 w hw), fun q hq => va_Nw.warmF hW (h5 q hq), fun q hq => va_Nw.warmM hW (h6 q hq), fun C hC => va_AO.moved hW.alike (h7 C hC), fun q hq => ?_, fun E hE => h_castable_warm hW (h9 E hE), fun E hE F hF hne => h_nc_warm hW (h10 E hE F hF hne), fun y hy => va_Nw.warmD hW (h11 y hy)⟩
  obtain ⟨a, ha⟩ := h8 q hq
  exact ⟨a, vk_R.warm hW ha⟩
/-- a call's start: the world, and what stays -/
def hPre (g : hG) (X : va_W) (S : hS) (av : List Value) : Array Value → State → Prop := va_Pc av (fun U => g.2.2 ≤ U.heap.size ∧ hw g X S U.heap ∧ hk g U U.heap)
theorem hPre_blind (g : hG) (X : va_W) (S : hS) (av : List Value) : FrameBlind (hPre g X S av) := by
  intro a U f mk h
  obtain ⟨h1, h0, h2, h3⟩ := h
  exact ⟨h1, h0, h2, hk_moved (U := U.calling f mk a) h3 (State.WarmedH.refl U) (fun _ _ _ => rfl)⟩
/-- a call's end: its answer and the pool behind it -/
def hQ (g : hG) (X : va_W) (post : Option Value → hS → Prop) : Array Value → State → Outcome → State → Prop := fun _ st oc t => (∃ (v : Option Value) (S' : hS), oc = .returned v ∧ post v S' ∧ hw g X S' t.heap) ∧ va_F (hA g) st t
/-- .. where it throws -/
def hXC (g : hG) (X : va_W) (px : String → hS → Prop) : String → State → State → Prop := fun E st t => ∃ S' : hS, px E S' ∧ hw g X S' t.heap ∧ va_F (hA g) st t
def hMet (l : Launch) (y : MethodName) (ws : List Cond) (rm : Room) (g : hG) (X : va_W) (S : hS) (av : List Value) (post : Option Value → hS → Prop) : Prop := Met l y ws rm (hPre g X S av) (hQ g X post) rm.cells rm.slots (hA g)
def hMetX (l : Launch) (y : MethodName) (ws : List Cond) (rm : Room) (g : hG) (X : va_W) (S : hS) (av : List Value) (post : Option Value → hS → Prop) (px : String → hS → Prop) : Prop := vx_Met l y ws rm (hPre g X S av) (hQ g X post) (hXC g X px) rm.cells rm.slots (hA g)
def hF (p : Program) (l : Launch) (s : State) (m : MethodId) (args : Array Value) (meth : Method) (c : Code) (cc : ByteArray) (nL : Nat) (ws : List Cond) (own : String) (g : hG) : Prop := CallFix p m c cc nL s args ws own ∧ hk g s s.heap ∧ meth.locks = false ∧ g.2.2 ≤ s.heap.size
/-- the walk's judgement: at pc, with these locals and this stack, over the pool S -/
def V (p : Program) (l : Launch) (e : Env) (R : Room) (s : State) (m : MethodId) (args : Array Value) (below : List Frame) (meth : Method) (c : Code) (nL : Nat) (g : hG) (X : va_W) (Q : State → Prop) (S : hS) (cells slots : Nat) (lv : List (Nat × Value)) (pc : Nat) (st : List Value) : Prop :=
  ∀ (H : Heap) (locs : List Loc) (ls : Array Slot), hw g X S H → va_S (hA g) s.heap H locs → lv_has ls nL lv → W p l e R s m args below meth c H locs cells slots Q (F0 m pc ls st)
/-- an exception of class E over the frame at pc -/
def VX (p : Program) (l : Launch) (e : Env) (R : Room) (s : State) (m : MethodId) (args : Array Value) (below : List Frame) (meth : Method) (c : Code) (nL : Nat) (g : hG) (X : va_W) (Q : State → Prop) (E : String) (S : hS) (cells slots : Nat) (lv : List (Nat × Value)) (pc : Nat) (st : List Value) : Prop :=
  ∀ (H : Heap) (locs : List Loc) (ls : Array Slot) (ce : Cell) (q : Addr), hw g X S H → va_S (hA g) s.heap H locs → lv_has ls nL lv → H[q]? = some ce → ce.vm = .none → s.vm.findClass E = some ce.cls → vx_W p l e R s m args below meth c H locs cells slots Q (F0 m pc ls st) q
section HFrame
variable {p : Program} {l : Launch} {e : Env} {R : Room} {s : State} {m : MethodId} {args : Array Value} {below : List Frame} {meth : Method} {c : Code} {nL : Nat} {g : hG} {X : va_W} {Q : State → Prop} {S : hS} {cells slots : Nat} {lv : List (Nat × Value)} {pc : Nat} {st rest : List Value} {cc : ByteArray} {Ts : List Cond} {own : String}
theorem hA_new {s : State} {g : hG} (h : g.2.2 ≤ s.heap.size) : ∀ q, s.heap.size ≤ q → hA g q := fun _ hq => Nat.le_trans h hq
/-! how a method begins -/
theorem h_start {y : MethodName} {ws ws' : List Cond} {rm : Room} {av : List Value} {post : Option Value → hS → Prop} {maxL : Nat} {ret : Option FieldType}
    (hy : plainName y.cls = true) (hws : ws = Cond.code y cc maxL ret :: ws') (hlen : (lg_sl av).length ≤ maxL)
    (body : ∀ (p : Program) (e : Env) (s : State) (m : MethodId) (args : Array Value) (below : List Frame) (meth : Method) (c : Code), hF p l s m args meth c cc maxL ws y.cls g → meth.sig.returnType = ret → meth.name = y.name →
      V p l e rm s m args below meth c maxL g X (MQ below (hQ g X post) args s rm.cells rm.slots (hA g)) S 0 0 (lv_args 0 av) 0 []) : hMet l y ws rm g X S av post := by
  refine Met.ofW (cc := cc) (maxL := maxL) (ret := ret) hy hws ?_
  intro p e s m args below meth c s₁ B hml hv
  obtain ⟨rfl, hz0, hwH, hkH⟩ := hv
  have hF9 : hF p l s m av.toArray meth c cc maxL ws y.cls g := ⟨⟨B.exec, B.bytes, hml, findClass_of_methodNamed B.named, atoms_spec (ws := ws) B.pre⟩, hkH, B.notSynchronized, hz0⟩
  rw [lg_entry_eq]
  exact body p e s m _ below meth c hF9 B.returns (name_of_methodNamed B.named B.method).1 s.heap [] _ hwH va_S.rf (lv_entry av hlen)
theorem h_startX {y : MethodName} {ws ws' : List Cond} {rm : Room} {av : List Value} {post : Option Value → hS → Prop} {px : String → hS → Prop} {maxL : Nat} {ret : Option FieldType}
    (hy : plainName y.cls = true) (hws : ws = Cond.code y cc maxL ret :: ws') (hlen : (lg_sl av).length ≤ maxL)
    (body : ∀ (p : Program) (e : Env) (s : State) (m : MethodId) (args : Array Value) (below : List Frame) (meth : Method) (c : Code), hF p l s m args meth c cc maxL ws y.cls g → meth.sig.returnType = ret → (∀ x ∈ c.exceptionTable.toList, False) →
      V p l e rm s m args below meth c maxL g X (vx_MQ below (hQ g X post) (hXC g X px) args s rm.cells rm.slots (hA g)) S 0 0 (lv_args 0 av) 0 []) : hMetX l y ws rm g X S av post px := by
  refine vx_ofW (cc := cc) (maxL := maxL) (ret := ret) hy hws ?_
  intro p e s m args below meth c s₁ B hml ht hv
  obtain ⟨rfl, hz0, hwH, hkH⟩ := hv
  have hF9 : hF p l s m av.toArray meth c cc maxL ws y.cls g := ⟨⟨B.exec, B.bytes, hml, findClass_of_methodNamed B.named, atoms_spec (ws := ws) B.pre⟩, hkH, B.notSynchronized, hz0⟩
  rw [lg_entry_eq]
  exact body p e s m _ below meth c hF9 B.returns ht s.heap [] _ hwH va_S.rf (lv_entry av hlen)
/-! how it ends -/
theorem h_endQ {H : Heap} {locs : List Loc} {post : Option Value → hS → Prop} {v : Option Value} (hS0 : va_S (hA g) s.heap H locs) (hw0 : hw g X S H) (h : post v S) : ∀ t : State, t.heap = H → s.WarmedH t.vm → hQ g X post args s (.returned v) t :=
  fun t ht _ => ⟨⟨v, S, rfl, h, by rw [ht]; exact hw0⟩, hS0.F ht⟩
theorem q_reti {ty : FieldType} {v : Int32} {post : Option Value → hS → Prop} {mc ms : Nat} (F : hF p l s m args meth c cc nL Ts own g) (hr : meth.sig.returnType = some ty) (hn : narrow ty (.int v) = .int v) (d : decode cc pc = .ok (.ireturn, 1)) (hc : cells ≤ mc) (hs : slots ≤ ms) (h : post (some (.int v)) S) :
    V p l e R s m args below meth c nL g X (MQ below (hQ g X post) args s mc ms (hA g)) S cells slots lv pc [.int v] := fun H locs ls hw0 hS0 _ =>
  W.widen hc hs (W.zret F.1.1 F.1.2.1 hr hn (h_endQ hS0 hw0 h) hS0.2.2 d F.2.2.1)
theorem q_retv {post : Option Value → hS → Prop} {mc ms : Nat} (F : hF p l s m args meth c cc nL Ts own g) (hr : meth.sig.returnType = none) (d : decode cc pc = .ok (.return_, 1)) (hc : cells ≤ mc) (hs : slots ≤ ms) (h : post none S) :
    V p l e R s m args below meth c nL g X (MQ below (hQ g X post) args s mc ms (hA g)) S cells slots lv pc [] := fun H locs ls hw0 hS0 _ =>
  W.widen hc hs (W.vret F.1.1 F.1.2.1 hr (h_endQ hS0 hw0 h) hS0.2.2 d F.2.2.1)
theorem q_retl {v : Int64} {post : Option Value → hS → Prop} {mc ms : Nat} (F : hF p l s m args meth c cc nL Ts own g) (hr : meth.sig.returnType = some .long) (d : decode cc pc = .ok (.lreturn, 1)) (hc : cells ≤ mc) (hs : slots ≤ ms) (h : post (some (.long v)) S) :
    V p l e R s m args below meth c nL g X (MQ below (hQ g X post) args s mc ms (hA g)) S cells slots lv pc [.long v] := fun H locs ls hw0 hS0 _ =>
  W.widen hc hs (W.lret F.1.1 F.1.2.1 hr (h_endQ hS0 hw0 h) hS0.2.2 d F.2.2.1)
theorem q_reta {ty : FieldType} {v : Value} {post : Option Value → hS → Prop} {mc ms : Nat} (F : hF p l s m args meth c cc nL Ts own g) (hr : meth.sig.returnType = some ty) (hty : (∃ n, ty = .object n) ∨ ∃ t, ty = .array t) (hv : v = .null ∨ ∃ a, v = .ref a) (d : decode cc pc = .ok (.areturn, 1)) (hc : cells ≤ mc) (hs : slots ≤ ms) (h : post (some v) S) :
    V p l e R s m args below meth c nL g X (MQ below (hQ g X post) args s mc ms (hA g)) S cells slots lv pc [v] := fun H locs ls hw0 hS0 _ =>
  W.widen hc hs (W.aret F.1.1 F.1.2.1 hr hty hv (h_endQ hS0 hw0 h) hS0.2.2 d F.2.2.1)
/-- the same ends, where the method may also throw -/
theorem q_x {post : Option Value → hS → Prop} {px : String → hS → Prop} {mc ms : Nat} (k : V p l e R s m args below meth c nL g X (MQ below (hQ g X post) args s mc ms (hA g)) S cells slots lv pc st) :
    V p l e R s m args below meth c nL g X (vx_MQ below (hQ g X post) (hXC g X px) args s mc ms (hA g)) S cells slots lv pc st := fun H locs ls hw0 hS0 hl => vx_ret (k H locs ls hw0 hS0 hl)
/-- an exception that no row of the table takes goes on to the caller -/
theorem q_out {E : String} {post : Option Value → hS → Prop} {px : String → hS → Prop} {mc ms : Nat} (F : hF p l s m args meth c cc nL Ts own g) (ht : ∀ x ∈ c.exceptionTable.toList, False) (hc : cells ≤ mc) (hs : slots ≤ ms) (h : px E S) :
    VX p l e R s m args below meth c nL g X (vx_MQ below (hQ g X post) (hXC g X px) args s mc ms (hA g)) E S cells slots lv pc st := fun H locs ls ce q hw0 hS0 _ h1 h2 h3 =>
  vx_out (fun x hx => (ht x hx).elim) F.2.2.1 h1 h2 h3 (fun t ht9 _ => ⟨S, h, by rw [ht9]; exact hw0, hS0.F ht9⟩) hS0.2.2 hc hs
theorem q_widen {k n : Nat} (hc : cells ≤ k) (hs : slots ≤ n) (kk : V p l e R s m args below meth c nL g X Q S k n lv pc st) : V p l e R s m args below meth c nL g X Q S cells slots lv pc st := fun H locs ls hw0 hS0 hl => W.widen hc hs (kk H locs ls hw0 hS0 hl)
/-- fewer locals, in another order -/
theorem q_lv {lv' : List (Nat × Value)} (h : ∀ q ∈ lv', q ∈ lv) (kk : V p l e R s m args below meth c nL g X Q S cells slots lv' pc st) : V p l e R s m args below meth c nL g X Q S cells slots lv pc st := fun H locs ls hw0 hS0 hl =>
  kk H locs ls hw0 hS0 ⟨hl.1, hl.2.1, fun q hq => hl.2.2 q (h q hq)⟩
theorem q_lvs (ks : List Nat) {lv' : List (Nat × Value)} (h : lv_pick lv ks = lv') (kk : V p l e R s m args below meth c nL g X Q S cells slots lv' pc st) : V p l e R s m args below meth c nL g X Q S cells slots lv pc st := fun H locs ls hw0 hS0 hl =>
  kk H locs ls hw0 hS0 (lv_sub hl ks h)
/-! calls -/
theorem h_call {H : Heap} {locs : List Loc} {ls : Array Slot} {st0 : List Value} {mc ms : Nat} {a : Array Value} {post : Option Value → hS → Prop}
    (hr : va_Run p l e R s m args below meth c H locs cells slots mc ms (F0 m pc ls st0) rest (hQ g X post a) (hA g)) (hS0 : va_S (hA g) s.heap H locs)
    (kk : ∀ (v : Option Value) (S' : hS) (H1 : Heap) (locs1 : List Loc), post v S' → hw g X S' H1 → va_S (hA g) s.heap H1 locs1 → W p l e R s m args below meth c H1 locs1 (cells + mc) (slots + ms) Q (F0 m (pc + 3) ls (v.toList ++ rest))) : W p l e R s m args below meth c H locs cells slots Q (F0 m pc ls st0) := by
  intro T hT X9
  obtain ⟨v, st₀, t, T', L, h0, X', hL, e1, e2, ⟨⟨v', S', hv, hp, hb⟩, hF9⟩, st⟩ := hr T hT X9
  cases hv
  obtain ⟨k1, k2, k3⟩ := vx_keep h0 e1 hS0 (fun _ _ h => h) (fun _ h => h) hL hF9
  obtain ⟨t2, a1, b1⟩ := kk v S' T'.heap (locs ++ L) hp (by rw [e1]; exact hb) k3 T' rfl X'
  exact ⟨t2, st t2 a1, b1⟩
theorem h_callX {H : Heap} {locs : List Loc} {ls : Array Slot} {st0 : List Value} {mc ms : Nat} {a : Array Value} {post : Option Value → hS → Prop} {px : String → hS → Prop}
    (hr : vx_Run p l e R s m args below meth c H locs cells slots mc ms (F0 m pc ls st0) rest (hQ g X post a) (hXC g X px) (hA g)) (hS0 : va_S (hA g) s.heap H locs)
    (kx : ∀ (E : String) (S' : hS) (H1 : Heap) (locs1 : List Loc) (ce : Cell) (q : Addr), px E S' → hw g X S' H1 → va_S (hA g) s.heap H1 locs1 → H1[q]? = some ce → ce.vm = .none → s.vm.findClass E = some ce.cls → vx_W p l e R s m args below meth c H1 locs1 (cells + mc) (slots + ms) Q (F0 m pc ls rest) q)
    (kk : ∀ (v : Option Value) (S' : hS) (H1 : Heap) (locs1 : List Loc), post v S' → hw g X S' H1 → va_S (hA g) s.heap H1 locs1 → W p l e R s m args below meth c H1 locs1 (cells + mc) (slots + ms) Q (F0 m (pc + 3) ls (v.toList ++ rest))) : W p l e R s m args below meth c H locs cells slots Q (F0 m pc ls st0) := by
  intro T hT X9
  rcases hr T hT X9 with ⟨v, st₀, t, T', L, h0, X', hL, e1, e2, ⟨⟨v', S', hv, hp, hb⟩, hF9⟩, st⟩ | ⟨q, st₀, t, T', L, E, ce, h0, X', hL, e1, e2, ⟨S', hp, hb, hF9⟩, hce, hcv, hcl, st⟩
  · cases hv
    obtain ⟨k1, k2, k3⟩ := vx_keep h0 e1 hS0 (fun _ _ h => h) (fun _ h => h) hL hF9
    obtain ⟨t2, a1, b1⟩ := kk v S' T'.heap (locs ++ L) hp (by rw [e1]; exact hb) k3 T' rfl X'
    exact ⟨t2, st t2 a1, b1⟩
  · obtain ⟨k1, k2, k3⟩ := vx_keep h0 e1 hS0 (fun _ _ h => h) (fun _ h => h) hL hF9
    obtain ⟨t2, a1, b1⟩ := kx E S' T'.heap (locs ++ L) ce q hp (by rw [e1]; exact hb) k3 (by rw [e1]; exact hce) hcv hcl T' rfl X'
    exact ⟨t2, st.trans a1, b1⟩
theorem h_preS {H : Heap} {locs : List Loc} {av : List Value} (hz : g.2.2 ≤ s.heap.size) (hk0 : hk g s s.heap) (hw0 : hw g X S H) (hS0 : va_S (hA g) s.heap H locs) : PreS s H (hPre g X S av) av :=
  ⟨hPre_blind g X S av, fun U hU hW => ⟨rfl, by rw [hU]; exact Nat.le_trans hz hS0.1, by rw [hU]; exact hw0, hk_moved hk0 hW (by rw [hU]; exact hS0.2.1)⟩⟩
theorem h_preV {H : Heap} {locs : List Loc} {As : List Value} {b ci N : Nat} {C : String} {T : u_T} (hz : g.2.2 ≤ s.heap.size) (hk0 : hk g s s.heap) (hw0 : hw g X S H) (hS0 : va_S (hA g) s.heap H locs) (hb : isO S b ci) (hc : vwCl[ci]? = some (C, T, N)) : PreV s H C b (hPre g X S (.ref b :: As)) As := by
  refine ⟨hPre_blind g X S _, ?_, (h_preS hz hk0 hw0 hS0).2⟩
  obtain ⟨i, -, hi⟩ := hw_get (g := g) (X := X) hb
  match ci, hc with
  | 0, hc => cases hc; exact va_recv hk0.1 hw0.1 (ci := 0) (q := (RX0, TX0, 7)) rfl hi
  | 1, hc => cases hc; exact va_recv hk0.1 hw0.1 (ci := 1) (q := (RX1, TX1, 10)) rfl hi
  | 2, hc => cases hc; exact va_recv hk0.1 hw0.1 (ci := 2) (q := (RX2, TX2, 4)) rfl hi
  | 3, hc => cases hc; exact va_recv hk0.1 hw0.1 (ci := 3) (q := (RX3, TX3, 3)) rfl hi
  | 4, hc => cases hc; exact va_recv hk0.1 hw0.1 (ci := 4) (q := (RX4, TX4, 12)) rfl hi
  | 5, hc => cases hc; exact va_recv hk0.1 hw0.1 (ci := 5) (q := (RX5, TX5, 32)) rfl hi
  | n + 6, hc => simp [vwCl] at hc
end HFrame
end
section
/-! posts that tell the answer and the pool behind it -/
def pI (r : Int32) (S : hS) : Option Value → hS → Prop := fun v S' => v = some (.int r) ∧ S' = S
def pL (r : Int64) (S : hS) : Option Value → hS → Prop := fun v S' => v = some (.long r) ∧ S' = S
def pA (r : Nat) (S : hS) : Option Value → hS → Prop := fun v S' => v = some (.ref r) ∧ S' = S
def pO (r : Option Nat) (S : hS) : Option Value → hS → Prop := fun v S' => v = some (va_rf r) ∧ S' = S
def pV (S : hS) : Option Value → hS → Prop := fun v S' => v = none ∧ S' = S
def pXI (r : Int32) (S : hS) (C : Prop) : Option Value → hS → Prop := fun v S' => v = some (.int r) ∧ S' = S ∧ C
def pXL (r : Int64) (S : hS) (C : Prop) : Option Value → hS → Prop := fun v S' => v = some (.long r) ∧ S' = S ∧ C
def pXA (r : Nat) (S : hS) (C : Prop) : Option Value → hS → Prop := fun v S' => v = some (.ref r) ∧ S' = S ∧ C
def pXO (r : Option Nat) (S : hS) (C : Prop) : Option Value → hS → Prop := fun v S' => v = some (va_rf r) ∧ S' = S ∧ C
def pXV (S : hS) (C : Prop) : Option Value → hS → Prop := fun v S' => v = none ∧ S' = S ∧ C
/-- an answer of some form, with a relation to the pool behind it -/
def pGI (P : Int32 → hS → Prop) : Option Value → hS → Prop := fun v S' => ∃ r, v = some (.int r) ∧ P r S'
def pGL (P : Int64 → hS → Prop) : Option Value → hS → Prop := fun v S' => ∃ r, v = some (.long r) ∧ P r S'
def pGA (P : Nat → hS → Prop) : Option Value → hS → Prop := fun v S' => ∃ r, v = some (.ref r) ∧ P r S'
def pGV (P : hS → Prop) : Option Value → hS → Prop := fun v S' => v = none ∧ P S'
def pE (S : hS) (P : String → Prop) : String → hS → Prop := fun E S' => S' = S ∧ P E
section HCalls
variable {p : Program} {l : Launch} {e : Env} {R : Room} {s : State} {m : MethodId} {args : Array Value} {below : List Frame} {meth : Method} {c : Code} {nL : Nat} {g : hG} {X : va_W} {Q : State → Prop} {S : hS} {cells slots : Nat} {lv : List (Nat × Value)} {pc : Nat} {st rest : List Value} {cc : ByteArray} {Ts : List Cond} {own : String}
variable {index n maxL ci N b : Nat} {y : MethodName} {bytes : ByteArray} {ret : Option FieldType} {ws ws' : List Cond} {rm : Room} {C : String} {T : u_T} {As st0 : List Value} {post : Option Value → hS → Prop} {px : String → hS → Prop} {Pe : String → Prop} {S1 : hS} {ri : Int32} {rl : Int64} {ra : Nat} {ro : Option Nat} {Cn : Prop} {PI : Int32 → hS → Prop} {PL : Int64 → hS → Prop} {PA : Nat → hS → Prop} {PV : hS → Prop}
theorem q_callV (F : hF p l s m args meth c cc nL Ts own g) (hM : hMet l y ws rm g X S (.ref b :: As) post) (hG : GoodIn Ts (wsV own index C y ws)) (hw1 : ws = Cond.code y bytes maxL ret :: ws') (hd : y.cls = C ∧ y.cls ≠ "java/lang/invoke/MethodHandle" ∧ y.cls ≠ "java/lang/invoke/VarHandle" ∧ (parseMethodDescriptor y.desc).map (fun d => d.parameters.length) = some n) (hR : rm.frames + 1 ≤ R.frames ∧ 8 + (maxL + 11) + rm.locals ≤ R.locals) (hb : isO S b ci) (hc : vwCl[ci]? = some (C, T, N)) (hn : As.length = n) (hst : st0 = As.reverse ++ .ref b :: rest) (hr : (rest.map fun v => v.category).sum ≤ 8) (d : decode cc pc = .ok (.invokevirtual index, 3)) (hf : cells + rm.cells ≤ R.cells ∧ slots + rm.slots ≤ R.slots)
    (kk : ∀ (v : Option Value) (S' : hS), post v S' → V p l e R s m args below meth c nL g X Q S' (cells + rm.cells) (slots + rm.slots) lv (pc + 3) (v.toList ++ rest)) : V p l e R s m args below meth c nL g X Q S cells slots lv pc st0 := by
  intro H locs ls hw0 hS0 hl
  subst hst
  exact h_call (va_runV F.1 hM (cwV n F.1.2.2.2.2 hG hw1 rfl rfl hd hR) (h_preV F.2.2.2 F.2.1 hw0 hS0 hb hc) rfl hn hl.1 rfl (lv_room hr) d hf) hS0 (fun v S' H1 locs1 hp hw1 hS1 => kk v S' hp H1 locs1 ls hw1 hS1 hl)
theorem q_callV_i (F : hF p l s m args meth c cc nL Ts own g) (hM : hMet l y ws rm g X S (.ref b :: As) (pI ri S1)) (hG : GoodIn Ts (wsV own index C y ws)) (hw1 : ws = Cond.code y bytes maxL ret :: ws') (hd : y.cls = C ∧ y.cls ≠ "java/lang/invoke/MethodHandle" ∧ y.cls ≠ "java/lang/invoke/VarHandle" ∧ (parseMethodDescriptor y.desc).map (fun d => d.parameters.length) = some n) (hR : rm.frames + 1 ≤ R.frames ∧ 8 + (maxL + 11) + rm.locals ≤ R.locals) (hb : isO S b ci) (hc : vwCl[ci]? = some (C, T, N)) (hn : As.length = n) (hst : st0 = As.reverse ++ .ref b :: rest) (hr : (rest.map fun v => v.category).sum ≤ 8) (d : decode cc pc = .ok (.invokevirtual index, 3)) (hf : cells + rm.cells ≤ R.cells ∧ slots + rm.slots ≤ R.slots)
    (kk : V p l e R s m args below meth c nL g X Q S1 (cells + rm.cells) (slots + rm.slots) lv (pc + 3) (.int ri :: rest)) : V p l e R s m args below meth c nL g X Q S cells slots lv pc st0 :=
  q_callV F hM hG hw1 hd hR hb hc hn hst hr d hf (fun v S' hp => by obtain ⟨rfl, rfl⟩ := hp; exact kk)
theorem q_callV_l (F : hF p l s m args meth c cc nL Ts own g) (hM : hMet l y ws rm g X S (.ref b :: As) (pL rl S1)) (hG : GoodIn Ts (wsV own index C y ws)) (hw1 : ws = Cond.code y bytes maxL ret :: ws') (hd : y.cls = C ∧ y.cls ≠ "java/lang/invoke/MethodHandle" ∧ y.cls ≠ "java/lang/invoke/VarHandle" ∧ (parseMethodDescriptor y.desc).map (fun d => d.parameters.length) = some n) (hR : rm.frames + 1 ≤ R.frames ∧ 8 + (maxL + 11) + rm.locals ≤ R.locals) (hb : isO S b ci) (hc : vwCl[ci]? = some (C, T, N)) (hn : As.length = n) (hst : st0 = As.reverse ++ .ref b :: rest) (hr : (rest.map fun v => v.category).sum ≤ 8) (d : decode cc pc = .ok (.invokevirtual index, 3)) (hf : cells + rm.cells ≤ R.cells ∧ slots + rm.slots ≤ R.slots)
    (kk : V p l e R s m args below meth c nL g X Q S1 (cells + rm.cells) (slots + rm.slots) lv (pc + 3) (.long rl :: rest)) : V p l e R s m args below meth c nL g X Q S cells slots lv pc st0 :=
  q_callV F hM hG hw1 hd hR hb hc hn hst hr d hf (fun v S' hp => by obtain ⟨rfl, rfl⟩ := hp; exact kk)
theorem q_callV_a (F : hF p l s m args meth c cc nL Ts own g) (hM : hMet l y ws rm g X S (.ref b :: As) (pA ra S1)) (hG : GoodIn Ts (wsV own index C y ws)) (hw1 : ws = Cond.code y bytes maxL ret :: ws') (hd : y.cls = C ∧ y.cls ≠ "java/lang/invoke/MethodHandle" ∧ y.cls ≠ "java/lang/invoke/VarHandle" ∧ (parseMethodDescriptor y.desc).map (fun d => d.parameters.length) = some n) (hR : rm.frames + 1 ≤ R.frames ∧ 8 + (maxL + 11) + rm.locals ≤ R.locals) (hb : isO S b ci) (hc : vwCl[ci]? = some (C, T, N)) (hn : As.length = n) (hst : st0 = As.reverse ++ .ref b :: rest) (hr : (rest.map fun v => v.category).sum ≤ 8) (d : decode cc pc = .ok (.invokevirtual index, 3)) (hf : cells + rm.cells ≤ R.cells ∧ slots + rm.slots ≤ R.slots)
    (kk : V p l e R s m args below meth c nL g X Q S1 (cells + rm.cells) (slots + rm.slots) lv (pc + 3) (.ref ra :: rest)) : V p l e R s m args below meth c nL g X Q S cells slots lv pc st0 :=
  q_callV F hM hG hw1 hd hR hb hc hn hst hr d hf (fun v S' hp => by obtain ⟨rfl, rfl⟩ := hp; exact kk)
theorem q_callV_o (F : hF p l s m args meth c cc nL Ts own g) (hM : hMet l y ws rm g X S (.ref b :: As) (pO ro S1)) (hG : GoodIn Ts (wsV own index C y ws)) (hw1 : ws = Cond.code y bytes maxL ret :: ws') (hd : y.cls = C ∧ y.cls ≠ "java/lang/invoke/MethodHandle" ∧ y.cls ≠ "java/lang/invoke/VarHandle" ∧ (parseMethodDescriptor y.desc).map (fun d => d.parameters.length) = some n) (hR : rm.frames + 1 ≤ R.frames ∧ 8 + (maxL + 11) + rm.locals ≤ R.locals) (hb : isO S b ci) (hc : vwCl[ci]? = some (C, T, N)) (hn : As.length = n) (hst : st0 = As.reverse ++ .ref b :: rest) (hr : (rest.map fun v => v.category).sum ≤ 8) (d : decode cc pc = .ok (.invokevirtual index, 3)) (hf : cells + rm.cells ≤ R.cells ∧ slots + rm.slots ≤ R.slots)
    (kk : V p l e R s m args below meth c nL g X Q S1 (cells + rm.cells) (slots + rm.slots) lv (pc + 3) (va_rf ro :: rest)) : V p l e R s m args below meth c nL g X Q S cells slots lv pc st0 :=
  q_callV F hM hG hw1 hd hR hb hc hn hst hr d hf (fun v S' hp => by obtain ⟨rfl, rfl⟩ := hp; exact kk)
theorem q_callV_v (F : hF p l s m args meth c cc nL Ts own g) (hM : hMet l y ws rm g X S (.ref b :: As) (pV S1)) (hG : GoodIn Ts (wsV own index C y ws)) (hw1 : ws = Cond.code y bytes maxL ret :: ws') (hd : y.cls = C ∧ y.cls ≠ "java/lang/invoke/MethodHandle" ∧ y.cls ≠ "java/lang/invoke/VarHandle" ∧ (parseMethodDescriptor y.desc).map (fun d => d.parameters.length) = some n) (hR : rm.frames + 1 ≤ R.frames ∧ 8 + (maxL + 11) + rm.locals ≤ R.locals) (hb : isO S b ci) (hc : vwCl[ci]? = some (C, T, N)) (hn : As.length = n) (hst : st0 = As.reverse ++ .ref b :: rest) (hr : (rest.map fun v => v.category).sum ≤ 8) (d : decode cc pc = .ok (.invokevirtual index, 3)) (hf : cells + rm.cells ≤ R.cells ∧ slots + rm.slots ≤ R.slots)
    (kk : V p l e R s m args below meth c nL g X Q S1 (cells + rm.cells) (slots + rm.slots) lv (pc + 3) rest) : V p l e R s m args below meth c nL g X Q S cells slots lv pc st0 :=
  q_callV F hM hG hw1 hd hR hb hc hn hst hr d hf (fun v S' hp => by obtain ⟨rfl, rfl⟩ := hp; exact kk)
theorem q_callV_gi (F : hF p l s m args meth c cc nL Ts own g) (hM : hMet l y ws rm g X S (.ref b :: As) (pGI PI)) (hG : GoodIn Ts (wsV own index C y ws)) (hw1 : ws = Cond.code y bytes maxL ret :: ws') (hd : y.cls = C ∧ y.cls ≠ "java/lang/invoke/MethodHandle" ∧ y.cls ≠ "java/lang/invoke/VarHandle" ∧ (parseMethodDescriptor y.desc).map (fun d => d.parameters.length) = some n) (hR : rm.frames + 1 ≤ R.frames ∧ 8 + (maxL + 11) + rm.locals ≤ R.locals) (hb : isO S b ci) (hc : vwCl[ci]? = some (C, T, N)) (hn : As.length = n) (hst : st0 = As.reverse ++ .ref b :: rest) (hr : (rest.map fun v => v.category).sum ≤ 8) (d : decode cc pc = .ok (.invokevirtual index, 3)) (hf : cells + rm.cells ≤ R.cells ∧ slots + rm.slots ≤ R.slots)
    (kk : ∀ (r : Int32) (S' : hS), PI r S' → V p l e R s m args below meth c nL g X Q S' (cells + rm.cells) (slots + rm.slots) lv (pc + 3) (.int r :: rest)) : V p l e R s m args below meth c nL g X Q S cells slots lv pc st0 :=
  q_callV F hM hG hw1 hd hR hb hc hn hst hr d hf (fun v S' hp => by obtain ⟨r, rfl, hp⟩ := hp; exact kk r S' hp)
theorem q_callV_gl (F : hF p l s m args meth c cc nL Ts own g) (hM : hMet l y ws rm g X S (.ref b :: As) (pGL PL)) (hG : GoodIn Ts (wsV own index C y ws)) (hw1 : ws = Cond.code y bytes maxL ret :: ws') (hd : y.cls = C ∧ y.cls ≠ "java/lang/invoke/MethodHandle" ∧ y.cls ≠ "java/lang/invoke/VarHandle" ∧ (parseMethodDescriptor y.desc).map (fun d => d.parameters.length) = some n) (hR : rm.frames + 1 ≤ R.frames ∧ 8 + (maxL + 11) + rm.locals ≤ R.locals) (hb : isO S b ci) (hc : vwCl[ci]? = some (C, T, N)) (hn : As.length = n) (hst : st0 = As.reverse ++ .ref b :: rest) (hr : (rest.map fun v => v.category).sum ≤ 8) (d : decode cc pc = .ok (.invokevirtual index, 3)) (hf : cells + rm.cells ≤ R.cells ∧ slots + rm.slots ≤ R.slots)
    (kk : ∀ (r : Int64) (S' : hS), PL r S' → V p l e R s m args below meth c nL g X Q S' (cells + rm.cells) (slots + rm.slots) lv (pc + 3) (.long r :: rest)) : V p l e R s m args below meth c nL g X Q S cells slots lv pc st0 :=
  q_callV F hM hG hw1 hd hR hb hc hn hst hr d hf (fun v S' hp => by obtain ⟨r, rfl, hp⟩ := hp; exact kk r S' hp)
theorem q_callV_ga (F : hF p l s m args meth c cc nL Ts own g) (hM : hMet l y ws rm g X S (.ref b :: As) (pGA PA)) (hG : GoodIn Ts (wsV own index C y ws)) (hw1 : ws = Cond.code y bytes maxL ret :: ws') (hd : y.cls = C ∧ y.cls ≠ "java/lang/invoke/MethodHandle" ∧ y.cls ≠ "java/lang/invoke/VarHandle" ∧ (parseMethodDescriptor y.desc).map (fun d => d.parameters.length) = some n) (hR : rm.frames + 1 ≤ R.frames ∧ 8 + (maxL + 11) + rm.locals ≤ R.locals) (hb : isO S b ci) (hc : vwCl[ci]? = some (C, T, N)) (hn : As.length = n) (hst : st0 = As.reverse ++ .ref b :: rest) (hr : (rest.map fun v => v.category).sum ≤ 8) (d : decode cc pc = .ok (.invokevirtual index, 3)) (hf : cells + rm.cells ≤ R.cells ∧ slots + rm.slots ≤ R.slots)
    (kk : ∀ (r : Nat) (S' : hS), PA r S' → V p l e R s m args below meth c nL g X Q S' (cells + rm.cells) (slots + rm.slots) lv (pc + 3) (.ref r :: rest)) : V p l e R s m args below meth c nL g X Q S cells slots lv pc st0 :=
  q_callV F hM hG hw1 hd hR hb hc hn hst hr d hf (fun v S' hp => by obtain ⟨r, rfl, hp⟩ := hp; exact kk r S' hp)
theorem q_callV_gv (F : hF p l s m args meth c cc nL Ts own g) (hM : hMet l y ws rm g X S (.ref b :: As) (pGV PV)) (hG : GoodIn Ts (wsV own index C y ws)) (hw1 : ws = Cond.code y bytes maxL ret :: ws') (hd : y.cls = C ∧ y.cls ≠ "java/lang/invoke/MethodHandle" ∧ y.cls ≠ "java/lang/invoke/VarHandle" ∧ (parseMethodDescriptor y.desc).map (fun d => d.parameters.length) = some n) (hR : rm.frames + 1 ≤ R.frames ∧ 8 + (maxL + 11) + rm.locals ≤ R.locals) (hb : isO S b ci) (hc : vwCl[ci]? = some (C, T, N)) (hn : As.length = n) (hst : st0 = As.reverse ++ .ref b :: rest) (hr : (rest.map fun v => v.category).sum ≤ 8) (d : decode cc pc = .ok (.invokevirtual index, 3)) (hf : cells + rm.cells ≤ R.cells ∧ slots + rm.slots ≤ R.slots)
    (kk : ∀ (S' : hS), PV S' → V p l e R s m args below meth c nL g X Q S' (cells + rm.cells) (slots + rm.slots) lv (pc + 3) rest) : V p l e R s m args below meth c nL g X Q S cells slots lv pc st0 :=
  q_callV F hM hG hw1 hd hR hb hc hn hst hr d hf (fun v S' hp => by obtain ⟨rfl, hp⟩ := hp; exact kk S' hp)
theorem q_callVX (F : hF p l s m args meth c cc nL Ts own g) (hM : hMetX l y ws rm g X S (.ref b :: As) post px) (hG : GoodIn Ts (wsV own index C y ws)) (hw1 : ws = Cond.code y bytes maxL ret :: ws') (hd : y.cls = C ∧ y.cls ≠ "java/lang/invoke/MethodHandle" ∧ y.cls ≠ "java/lang/invoke/VarHandle" ∧ (parseMethodDescriptor y.desc).map (fun d => d.parameters.length) = some n) (hR : rm.frames + 1 ≤ R.frames ∧ 8 + (maxL + 11) + rm.locals ≤ R.locals) (hb : isO S b ci) (hc : vwCl[ci]? = some (C, T, N)) (hn : As.length = n) (hst : st0 = As.reverse ++ .ref b :: rest) (hr : (rest.map fun v => v.category).sum ≤ 8) (d : decode cc pc = .ok (.invokevirtual index, 3)) (hf : cells + rm.cells ≤ R.cells ∧ slots + rm.slots ≤ R.slots)
    (kx : ∀ (E : String) (S' : hS), px E S' → VX p l e R s m args below meth c nL g X Q E S' (cells + rm.cells) (slots + rm.slots) lv pc rest)
    (kk : ∀ (v : Option Value) (S' : hS), post v S' → V p l e R s m args below meth c nL g X Q S' (cells + rm.cells) (slots + rm.slots) lv (pc + 3) (v.toList ++ rest)) : V p l e R s m args below meth c nL g X Q S cells slots lv pc st0 := by
  intro H locs ls hw0 hS0 hl
  subst hst
  exact h_callX (vx_runV F.1 hM (cwV n F.1.2.2.2.2 hG hw1 rfl rfl hd hR) (h_preV F.2.2.2 F.2.1 hw0 hS0 hb hc) rfl hn hl.1 rfl (lv_room hr) d hf) hS0 (fun E S' H1 locs1 ce q hp hw1 hS1 a1 a2 a3 => kx E S' hp H1 locs1 ls ce q hw1 hS1 hl a1 a2 a3) (fun v S' H1 locs1 hp hw1 hS1 => kk v S' hp H1 locs1 ls hw1 hS1 hl)
theorem q_callVX_i (F : hF p l s m args meth c cc nL Ts own g) (hM : hMetX l y ws rm g X S (.ref b :: As) (pXI ri S1 Cn) (pE S Pe)) (hG : GoodIn Ts (wsV own index C y ws)) (hw1 : ws = Cond.code y bytes maxL ret :: ws') (hd : y.cls = C ∧ y.cls ≠ "java/lang/invoke/MethodHandle" ∧ y.cls ≠ "java/lang/invoke/VarHandle" ∧ (parseMethodDescriptor y.desc).map (fun d => d.parameters.length) = some n) (hR : rm.frames + 1 ≤ R.frames ∧ 8 + (maxL + 11) + rm.locals ≤ R.locals) (hb : isO S b ci) (hc : vwCl[ci]? = some (C, T, N)) (hn : As.length = n) (hst : st0 = As.reverse ++ .ref b :: rest) (hr : (rest.map fun v => v.category).sum ≤ 8) (d : decode cc pc = .ok (.invokevirtual index, 3)) (hf : cells + rm.cells ≤ R.cells ∧ slots + rm.slots ≤ R.slots)
    (kx : ∀ (E : String), Pe E → VX p l e R s m args below meth c nL g X Q E S (cells + rm.cells) (slots + rm.slots) lv pc rest)
    (kk : Cn → V p l e R s m args below meth c nL g X Q S1 (cells + rm.cells) (slots + rm.slots) lv (pc + 3) (.int ri :: rest)) : V p l e R s m args below meth c nL g X Q S cells slots lv pc st0 :=
  q_callVX F hM hG hw1 hd hR hb hc hn hst hr d hf (fun E S' hp => by obtain ⟨rfl, hp⟩ := hp; exact kx E hp) (fun v S' hp => by obtain ⟨rfl, rfl, hp⟩ := hp; exact kk hp)
theorem q_callVX_l (F : hF p l s m args meth c cc nL Ts own g) (hM : hMetX l y ws rm g X S (.ref b :: As) (pXL rl S1 Cn) (pE S Pe)) (hG : GoodIn Ts (wsV own index C y ws)) (hw1 : ws = Cond.code y bytes maxL ret :: ws') (hd : y.cls = C ∧ y.cls ≠ "java/lang/invoke/MethodHandle" ∧ y.cls ≠ "java/lang/invoke/VarHandle" ∧ (parseMethodDescriptor y.desc).map (fun d => d.parameters.length) = some n) (hR : rm.frames + 1 ≤ R.frames ∧ 8 + (maxL + 11) + rm.locals ≤ R.locals) (hb : isO S b ci) (hc : vwCl[ci]? = some (C, T, N)) (hn : As.length = n) (hst : st0 = As.reverse ++ .ref b :: rest) (hr : (rest.map fun v => v.category).sum ≤ 8) (d : decode cc pc = .ok (.invokevirtual index, 3)) (hf : cells + rm.cells ≤ R.cells ∧ slots + rm.slots ≤ R.slots)
    (kx : ∀ (E : String), Pe E → VX p l e R s m args below meth c nL g X Q E S (cells + rm.cells) (slots + rm.slots) lv pc rest)
    (kk : Cn → V p l e R s m args below meth c nL g X Q S1 (cells + rm.cells) (slots + rm.slots) lv (pc + 3) (.long rl :: rest)) : V p l e R s m args below meth c nL g X Q S cells slots lv pc st0 :=
  q_callVX F hM hG hw1 hd hR hb hc hn hst hr d hf (fun E S' hp => by obtain ⟨rfl, hp⟩ := hp; exact kx E hp) (fun v S' hp => by obtain ⟨rfl, rfl, hp⟩ := hp; exact kk hp)
theorem q_callVX_a (F : hF p l s m args meth c cc nL Ts own g) (hM : hMetX l y ws rm g X S (.ref b :: As) (pXA ra S1 Cn) (pE S Pe)) (hG : GoodIn Ts (wsV own index C y ws)) (hw1 : ws = Cond.code y bytes maxL ret :: ws') (hd : y.cls = C ∧ y.cls ≠ "java/lang/invoke/MethodHandle" ∧ y.cls ≠ "java/lang/invoke/VarHandle" ∧ (parseMethodDescriptor y.desc).map (fun d => d.parameters.length) = some n) (hR : rm.frames + 1 ≤ R.frames ∧ 8 + (maxL + 11) + rm.locals ≤ R.locals) (hb : isO S b ci) (hc : vwCl[ci]? = some (C, T, N)) (hn : As.length = n) (hst : st0 = As.reverse ++ .ref b :: rest) (hr : (rest.map fun v => v.category).sum ≤ 8) (d : decode cc pc = .ok (.invokevirtual index, 3)) (hf : cells + rm.cells ≤ R.cells ∧ slots + rm.slots ≤ R.slots)
    (kx : ∀ (E : String), Pe E → VX p l e R s m args below meth c nL g X Q E S (cells + rm.cells) (slots + rm.slots) lv pc rest)
    (kk : Cn → V p l e R s m args below meth c nL g X Q S1 (cells + rm.cells) (slots + rm.slots) lv (pc + 3) (.ref ra :: rest)) : V p l e R s m args below meth c nL g X Q S cells slots lv pc st0 :=
  q_callVX F hM hG hw1 hd hR hb hc hn hst hr d hf (fun E S' hp => by obtain ⟨rfl, hp⟩ := hp; exact kx E hp) (fun v S' hp => by obtain ⟨rfl, rfl, hp⟩ := hp; exact kk hp)
theorem q_callVX_o (F : hF p l s m args meth c cc nL Ts own g) (hM : hMetX l y ws rm g X S (.ref b :: As) (pXO ro S1 Cn) (pE S Pe)) (hG : GoodIn Ts (wsV own index C y ws)) (hw1 : ws = Cond.code y bytes maxL ret :: ws') (hd : y.cls = C ∧ y.cls ≠ "java/lang/invoke/MethodHandle" ∧ y.cls ≠ "java/lang/invoke/VarHandle" ∧ (parseMethodDescriptor y.desc).map (fun d => d.parameters.length) = some n) (hR : rm.frames + 1 ≤ R.frames ∧ 8 + (maxL + 11) + rm.locals ≤ R.locals) (hb : isO S b ci) (hc : vwCl[ci]? = some (C, T, N)) (hn : As.length = n) (hst : st0 = As.reverse ++ .ref b :: rest) (hr : (rest.map fun v => v.category).sum ≤ 8) (d : decode cc pc = .ok (.invokevirtual index, 3)) (hf : cells + rm.cells ≤ R.cells ∧ slots + rm.slots ≤ R.slots)
    (kx : ∀ (E : String), Pe E → VX p l e R s m args below meth c nL g X Q E S (cells + rm.cells) (slots + rm.slots) lv pc rest)
    (kk : Cn → V p l e R s m args below meth c nL g X Q S1 (cells + rm.cells) (slots + rm.slots) lv (pc + 3) (va_rf ro :: rest)) : V p l e R s m args below meth c nL g X Q S cells slots lv pc st0 :=
  q_callVX F hM hG hw1 hd hR hb hc hn hst hr d hf (fun E S' hp => by obtain ⟨rfl, hp⟩ := hp; exact kx E hp) (fun v S' hp => by obtain ⟨rfl, rfl, hp⟩ := hp; exact kk hp)
theorem q_callVX_v (F : hF p l s m args meth c cc nL Ts own g) (hM : hMetX l y ws rm g X S (.ref b :: As) (pXV S1 Cn) (pE S Pe)) (hG : GoodIn Ts (wsV own index C y ws)) (hw1 : ws = Cond.code y bytes maxL ret :: ws') (hd : y.cls = C ∧ y.cls ≠ "java/lang/invoke/MethodHandle" ∧ y.cls ≠ "java/lang/invoke/VarHandle" ∧ (parseMethodDescriptor y.desc).map (fun d => d.parameters.length) = some n) (hR : rm.frames + 1 ≤ R.frames ∧ 8 + (maxL + 11) + rm.locals ≤ R.locals) (hb : isO S b ci) (hc : vwCl[ci]? = some (C, T, N)) (hn : As.length = n) (hst : st0 = As.reverse ++ .ref b :: rest) (hr : (rest.map fun v => v.category).sum ≤ 8) (d : decode cc pc = .ok (.invokevirtual index, 3)) (hf : cells + rm.cells ≤ R.cells ∧ slots + rm.slots ≤ R.slots)
    (kx : ∀ (E : String), Pe E → VX p l e R s m args below meth c nL g X Q E S (cells + rm.cells) (slots + rm.slots) lv pc rest)
    (kk : Cn → V p l e R s m args below meth c nL g X Q S1 (cells + rm.cells) (slots + rm.slots) lv (pc + 3) rest) : V p l e R s m args below meth c nL g X Q S cells slots lv pc st0 :=
  q_callVX F hM hG hw1 hd hR hb hc hn hst hr d hf (fun E S' hp => by obtain ⟨rfl, hp⟩ := hp; exact kx E hp) (fun v S' hp => by obtain ⟨rfl, rfl, hp⟩ := hp; exact kk hp)
theorem q_callVX_gi (F : hF p l s m args meth c cc nL Ts own g) (hM : hMetX l y ws rm g X S (.ref b :: As) (pGI PI) (pE S Pe)) (hG : GoodIn Ts (wsV own index C y ws)) (hw1 : ws = Cond.code y bytes maxL ret :: ws') (hd : y.cls = C ∧ y.cls ≠ "java/lang/invoke/MethodHandle" ∧ y.cls ≠ "java/lang/invoke/VarHandle" ∧ (parseMethodDescriptor y.desc).map (fun d => d.parameters.length) = some n) (hR : rm.frames + 1 ≤ R.frames ∧ 8 + (maxL + 11) + rm.locals ≤ R.locals) (hb : isO S b ci) (hc : vwCl[ci]? = some (C, T, N)) (hn : As.length = n) (hst : st0 = As.reverse ++ .ref b :: rest) (hr : (rest.map fun v => v.category).sum ≤ 8) (d : decode cc pc = .ok (.invokevirtual index, 3)) (hf : cells + rm.cells ≤ R.cells ∧ slots + rm.slots ≤ R.slots)
    (kx : ∀ (E : String), Pe E → VX p l e R s m args below meth c nL g X Q E S (cells + rm.cells) (slots + rm.slots) lv pc rest)
    (kk : ∀ (r : Int32) (S' : hS), PI r S' → V p l e R s m args below meth c nL g X Q S' (cells + rm.cells) (slots + rm.slots) lv (pc + 3) (.int r :: rest)) : V p l e R s m args below meth c nL g X Q S cells slots lv pc st0 :=
  q_callVX F hM hG hw1 hd hR hb hc hn hst hr d hf (fun E S' hp => by obtain ⟨rfl, hp⟩ := hp; exact kx E hp) (fun v S' hp => by obtain ⟨r, rfl, hp⟩ := hp; exact kk r S' hp)
theorem q_callVX_gl (F : hF p l s m args meth c cc nL Ts own g) (hM : hMetX l y ws rm g X S (.ref b :: As) (pGL PL) (pE S Pe)) (hG : GoodIn Ts (wsV own index C y ws)) (hw1 : ws = Cond.code y bytes maxL ret :: ws') (hd : y.cls = C ∧ y.cls ≠ "java/lang/invoke/MethodHandle" ∧ y.cls ≠ "java/lang/invoke/VarHandle" ∧ (parseMethodDescriptor y.desc).map (fun d => d.parameters.length) = some n) (hR : rm.frames + 1 ≤ R.frames ∧ 8 + (maxL + 11) + rm.locals ≤ R.locals) (hb : isO S b ci) (hc : vwCl[ci]? = some (C, T, N)) (hn : As.length = n) (hst : st0 = As.reverse ++ .ref b :: rest) (hr : (rest.map fun v => v.category).sum ≤ 8) (d : decode cc pc = .ok (.invokevirtual index, 3)) (hf : cells + rm.cells ≤ R.cells ∧ slots + rm.slots ≤ R.slots)
    (kx : ∀ (E : String), Pe E → VX p l e R s m args below meth c nL g X Q E S (cells + rm.cells) (slots + rm.slots) lv pc rest)
    (kk : ∀ (r : Int64) (S' : hS), PL r S' → V p l e R s m args below meth c nL g X Q S' (cells + rm.cells) (slots + rm.slots) lv (pc + 3) (.long r :: rest)) : V p l e R s m args below meth c nL g X Q S cells slots lv pc st0 :=
  q_callVX F hM hG hw1 hd hR hb hc hn hst hr d hf (fun E S' hp => by obtain ⟨rfl, hp⟩ := hp; exact kx E hp) (fun v S' hp => by obtain ⟨r, rfl, hp⟩ := hp; exact kk r S' hp)
theorem q_callVX_ga (F : hF p l s m args meth c cc nL Ts own g) (hM : hMetX l y ws rm g X S (.ref b :: As) (pGA PA) (pE S Pe)) (hG : GoodIn Ts (wsV own index C y ws)) (hw1 : ws = Cond.code y bytes maxL ret :: ws') (hd : y.cls = C ∧ y.cls ≠ "java/lang/invoke/MethodHandle" ∧ y.cls ≠ "java/lang/invoke/VarHandle" ∧ (parseMethodDescriptor y.desc).map (fun d => d.parameters.length) = some n) (hR : rm.frames + 1 ≤ R.frames ∧ 8 + (maxL + 11) + rm.locals ≤ R.locals) (hb : isO S b ci) (hc : vwCl[ci]? = some (C, T, N)) (hn : As.length = n) (hst : st0 = As.reverse ++ .ref b :: rest) (hr : (rest.map fun v => v.category).sum ≤ 8) (d : decode cc pc = .ok (.invokevirtual index, 3)) (hf : cells + rm.cells ≤ R.cells ∧ slots + rm.slots ≤ R.slots)
    (kx : ∀ (E : String), Pe E → VX p l e R s m args below meth c nL g X Q E S (cells + rm.cells) (slots + rm.slots) lv pc rest)
    (kk : ∀ (r : Nat) (S' : hS), PA r S' → V p l e R s m args below meth c nL g X Q S' (cells + rm.cells) (slots + rm.slots) lv (pc + 3) (.ref r :: rest)) : V p l e R s m args below meth c nL g X Q S cells slots lv pc st0 :=
  q_callVX F hM hG hw1 hd hR hb hc hn hst hr d hf (fun E S' hp => by obtain ⟨rfl, hp⟩ := hp; exact kx E hp) (fun v S' hp => by obtain ⟨r, rfl, hp⟩ := hp; exact kk r S' hp)
theorem q_callVX_gv (F : hF p l s m args meth c cc nL Ts own g) (hM : hMetX l y ws rm g X S (.ref b :: As) (pGV PV) (pE S Pe)) (hG : GoodIn Ts (wsV own index C y ws)) (hw1 : ws = Cond.code y bytes maxL ret :: ws') (hd : y.cls = C ∧ y.cls ≠ "java/lang/invoke/MethodHandle" ∧ y.cls ≠ "java/lang/invoke/VarHandle" ∧ (parseMethodDescriptor y.desc).map (fun d => d.parameters.length) = some n) (hR : rm.frames + 1 ≤ R.frames ∧ 8 + (maxL + 11) + rm.locals ≤ R.locals) (hb : isO S b ci) (hc : vwCl[ci]? = some (C, T, N)) (hn : As.length = n) (hst : st0 = As.reverse ++ .ref b :: rest) (hr : (rest.map fun v => v.category).sum ≤ 8) (d : decode cc pc = .ok (.invokevirtual index, 3)) (hf : cells + rm.cells ≤ R.cells ∧ slots + rm.slots ≤ R.slots)
    (kx : ∀ (E : String), Pe E → VX p l e R s m args below meth c nL g X Q E S (cells + rm.cells) (slots + rm.slots) lv pc rest)
    (kk : ∀ (S' : hS), PV S' → V p l e R s m args below meth c nL g X Q S' (cells + rm.cells) (slots + rm.slots) lv (pc + 3) rest) : V p l e R s m args below meth c nL g X Q S cells slots lv pc st0 :=
  q_callVX F hM hG hw1 hd hR hb hc hn hst hr d hf (fun E S' hp => by obtain ⟨rfl, hp⟩ := hp; exact kx E hp) (fun v S' hp => by obtain ⟨rfl, hp⟩ := hp; exact kk S' hp)
theorem q_callS (F : hF p l s m args meth c cc nL Ts own g) (hM : hMet l y ws rm g X S As post) (hG : GoodIn Ts (va_wsS own index y ws)) (hw1 : ws = Cond.code y bytes maxL ret :: ws') (hd : y.cls ≠ "java/lang/invoke/MethodHandle" ∧ y.cls ≠ "java/lang/invoke/VarHandle" ∧ (parseMethodDescriptor y.desc).map (fun d => d.parameters.length) = some n) (hR : rm.frames + 1 ≤ R.frames ∧ 8 + (maxL + 11) + rm.locals ≤ R.locals) (hn : As.length = n) (hst : st0 = As.reverse ++ rest) (hr : (rest.map fun v => v.category).sum ≤ 8) (d : decode cc pc = .ok (.invokestatic index, 3)) (hf : cells + rm.cells ≤ R.cells ∧ slots + rm.slots ≤ R.slots)
    (kk : ∀ (v : Option Value) (S' : hS), post v S' → V p l e R s m args below meth c nL g X Q S' (cells + rm.cells) (slots + rm.slots) lv (pc + 3) (v.toList ++ rest)) : V p l e R s m args below meth c nL g X Q S cells slots lv pc st0 := by
  intro H locs ls hw0 hS0 hl
  subst hst
  exact h_call (va_runS F.1 hM (va_cwS n F.1.2.2.2.2 hG hw1 rfl rfl hd hR) (h_preS F.2.2.2 F.2.1 hw0 hS0) rfl hn hl.1 rfl (lv_room hr) d hf) hS0 (fun v S' H1 locs1 hp hw1 hS1 => kk v S' hp H1 locs1 ls hw1 hS1 hl)
theorem q_callS_i (F : hF p l s m args meth c cc nL Ts own g) (hM : hMet l y ws rm g X S As (pI ri S1)) (hG : GoodIn Ts (va_wsS own index y ws)) (hw1 : ws = Cond.code y bytes maxL ret :: ws') (hd : y.cls ≠ "java/lang/invoke/MethodHandle" ∧ y.cls ≠ "java/lang/invoke/VarHandle" ∧ (parseMethodDescriptor y.desc).map (fun d => d.parameters.length) = some n) (hR : rm.frames + 1 ≤ R.frames ∧ 8 + (maxL + 11) + rm.locals ≤ R.locals) (hn : As.length = n) (hst : st0 = As.reverse ++ rest) (hr : (rest.map fun v => v.category).sum ≤ 8) (d : decode cc pc = .ok (.invokestatic index, 3)) (hf : cells + rm.cells ≤ R.cells ∧ slots + rm.slots ≤ R.slots)
    (kk : V p l e R s m args below meth c nL g X Q S1 (cells + rm.cells) (slots + rm.slots) lv (pc + 3) (.int ri :: rest)) : V p l e R s m args below meth c nL g X Q S cells slots lv pc st0 :=
  q_callS F hM hG hw1 hd hR hn hst hr d hf (fun v S' hp => by obtain ⟨rfl, rfl⟩ := hp; exact kk)
theorem q_callS_l (F : hF p l s m args meth c cc nL Ts own g) (hM : hMet l y ws rm g X S As (pL rl S1)) (hG : GoodIn Ts (va_wsS own index y ws)) (hw1 : ws = Cond.code y bytes maxL ret :: ws') (hd : y.cls ≠ "java/lang/invoke/MethodHandle" ∧ y.cls ≠ "java/lang/invoke/VarHandle" ∧ (parseMethodDescriptor y.desc).map (fun d => d.parameters.length) = some n) (hR : rm.frames + 1 ≤ R.frames ∧ 8 + (maxL + 11) + rm.locals ≤ R.locals) (hn : As.length = n) (hst : st0 = As.reverse ++ rest) (hr : (rest.map fun v => v.category).sum ≤ 8) (d : decode cc pc = .ok (.invokestatic index, 3)) (hf : cells + rm.cells ≤ R.cells ∧ slots + rm.slots ≤ R.slots)
    (kk : V p l e R s m args below meth c nL g X Q S1 (cells + rm.cells) (slots + rm.slots) lv (pc + 3) (.long rl :: rest)) : V p l e R s m args below meth c nL g X Q S cells slots lv pc st0 :=
  q_callS F hM hG hw1 hd hR hn hst hr d hf (fun v S' hp => by obtain ⟨rfl, rfl⟩ := hp; exact kk)
theorem q_callS_a (F : hF p l s m args meth c cc nL Ts own g) (hM : hMet l y ws rm g X S As (pA ra S1)) (hG : GoodIn Ts (va_wsS own index y ws)) (hw1 : ws = Cond.code y bytes maxL ret :: ws') (hd : y.cls ≠ "java/lang/invoke/MethodHandle" ∧ y.cls ≠ "java/lang/invoke/VarHandle" ∧ (parseMethodDescriptor y.desc).map (fun d => d.parameters.length) = some n) (hR : rm.frames + 1 ≤ R.frames ∧ 8 + (maxL + 11) + rm.locals ≤ R.locals) (hn : As.length = n) (hst : st0 = As.reverse ++ rest) (hr : (rest.map fun v => v.category).sum ≤ 8) (d : decode cc pc = .ok (.invokestatic index, 3)) (hf : cells + rm.cells ≤ R.cells ∧ slots + rm.slots ≤ R.slots)
    (kk : V p l e R s m args below meth c nL g X Q S1 (cells + rm.cells) (slots + rm.slots) lv (pc + 3) (.ref ra :: rest)) : V p l e R s m args below meth c nL g X Q S cells slots lv pc st0 :=
  q_callS F hM hG hw1 hd hR hn hst hr d hf (fun v S' hp => by obtain ⟨rfl, rfl⟩ := hp; exact kk)
theorem q_callS_o (F : hF p l s m args meth c cc nL Ts own g) (hM : hMet l y ws rm g X S As (pO ro S1)) (hG : GoodIn Ts (va_wsS own index y ws)) (hw1 : ws = Cond.code y bytes maxL ret :: ws') (hd : y.cls ≠ "java/lang/invoke/MethodHandle" ∧ y.cls ≠ "java/lang/invoke/VarHandle" ∧ (parseMethodDescriptor y.desc).map (fun d => d.parameters.length) = some n) (hR : rm.frames + 1 ≤ R.frames ∧ 8 + (maxL + 11) + rm.locals ≤ R.locals) (hn : As.length = n) (hst : st0 = As.reverse ++ rest) (hr : (rest.map fun v => v.category).sum ≤ 8) (d : decode cc pc = .ok (.invokestatic index, 3)) (hf : cells + rm.cells ≤ R.cells ∧ slots + rm.slots ≤ R.slots)
    (kk : V p l e R s m args below meth c nL g X Q S1 (cells + rm.cells) (slots + rm.slots) lv (pc + 3) (va_rf ro :: rest)) : V p l e R s m args below meth c nL g X Q S cells slots lv pc st0 :=
  q_callS F hM hG hw1 hd hR hn hst hr d hf (fun v S' hp => by obtain ⟨rfl, rfl⟩ := hp; exact kk)
theorem q_callS_v (F : hF p l s m args meth c cc nL Ts own g) (hM : hMet l y ws rm g X S As (pV S1)) (hG : GoodIn Ts (va_wsS own index y ws)) (hw1 : ws = Cond.code y bytes maxL ret :: ws') (hd : y.cls ≠ "java/lang/invoke/MethodHandle" ∧ y.cls ≠ "java/lang/invoke/VarHandle" ∧ (parseMethodDescriptor y.desc).map (fun d => d.parameters.length) = some n) (hR : rm.frames + 1 ≤ R.frames ∧ 8 + (maxL + 11) + rm.locals ≤ R.locals) (hn : As.length = n) (hst : st0 = As.reverse ++ rest) (hr : (rest.map fun v => v.category).sum ≤ 8) (d : decode cc pc = .ok (.invokestatic index, 3)) (hf : cells + rm.cells ≤ R.cells ∧ slots + rm.slots ≤ R.slots)
    (kk : V p l e R s m args below meth c nL g X Q S1 (cells + rm.cells) (slots + rm.slots) lv (pc + 3) rest) : V p l e R s m args below meth c nL g X Q S cells slots lv pc st0 :=
  q_callS F hM hG hw1 hd hR hn hst hr d hf (fun v S' hp => by obtain ⟨rfl, rfl⟩ := hp; exact kk)
theorem q_callS_gi (F : hF p l s m args meth c cc nL Ts own g) (hM : hMet l y ws rm g X S As (pGI PI)) (hG : GoodIn Ts (va_wsS own index y ws)) (hw1 : ws = Cond.code y bytes maxL ret :: ws') (hd : y.cls ≠ "java/lang/invoke/MethodHandle" ∧ y.cls ≠ "java/lang/invoke/VarHandle" ∧ (parseMethodDescriptor y.desc).map (fun d => d.parameters.length) = some n) (hR : rm.frames + 1 ≤ R.frames ∧ 8 + (maxL + 11) + rm.locals ≤ R.locals) (hn : As.length = n) (hst : st0 = As.reverse ++ rest) (hr : (rest.map fun v => v.category).sum ≤ 8) (d : decode cc pc = .ok (.invokestatic index, 3)) (hf : cells + rm.cells ≤ R.cells ∧ slots + rm.slots ≤ R.slots)
    (kk : ∀ (r : Int32) (S' : hS), PI r S' → V p l e R s m args below meth c nL g X Q S' (cells + rm.cells) (slots + rm.slots) lv (pc + 3) (.int r :: rest)) : V p l e R s m args below meth c nL g X Q S cells slots lv pc st0 :=
  q_callS F hM hG hw1 hd hR hn hst hr d hf (fun v S' hp => by obtain ⟨r, rfl, hp⟩ := hp; exact kk r S' hp)
theorem q_callS_gl (F : hF p l s m args meth c cc nL Ts own g) (hM : hMet l y ws rm g X S As (pGL PL)) (hG : GoodIn Ts (va_wsS own index y ws)) (hw1 : ws = Cond.code y bytes maxL ret :: ws') (hd : y.cls ≠ "java/lang/invoke/MethodHandle" ∧ y.cls ≠ "java/lang/invoke/VarHandle" ∧ (parseMethodDescriptor y.desc).map (fun d => d.parameters.length) = some n) (hR : rm.frames + 1 ≤ R.frames ∧ 8 + (maxL + 11) + rm.locals ≤ R.locals) (hn : As.length = n) (hst : st0 = As.reverse ++ rest) (hr : (rest.map fun v => v.category).sum ≤ 8) (d : decode cc pc = .ok (.invokestatic index, 3)) (hf : cells + rm.cells ≤ R.cells ∧ slots + rm.slots ≤ R.slots)
    (kk : ∀ (r : Int64) (S' : hS), PL r S' → V p l e R s m args below meth c nL g X Q S' (cells + rm.cells) (slots + rm.slots) lv (pc + 3) (.long r :: rest)) : V p l e R s m args below meth c nL g X Q S cells slots lv pc st0 :=
  q_callS F hM hG hw1 hd hR hn hst hr d hf (fun v S' hp => by obtain ⟨r, rfl, hp⟩ := hp; exact kk r S' hp)
theorem q_callS_ga (F : hF p l s m args meth c cc nL Ts own g) (hM : hMet l y ws rm g X S As (pGA PA)) (hG : GoodIn Ts (va_wsS own index y ws)) (hw1 : ws = Cond.code y bytes maxL ret :: ws') (hd : y.cls ≠ "java/lang/invoke/MethodHandle" ∧ y.cls ≠ "java/lang/invoke/VarHandle" ∧ (parseMethodDescriptor y.desc).map (fun d => d.parameters.length) = some n) (hR : rm.frames + 1 ≤ R.frames ∧ 8 + (maxL + 11) + rm.locals ≤ R.locals) (hn : As.length = n) (hst : st0 = As.reverse ++ rest) (hr : (rest.map fun v => v.category).sum ≤ 8) (d : decode cc pc = .ok (.invokestatic index, 3)) (hf : cells + rm.cells ≤ R.cells ∧ slots + rm.slots ≤ R.slots)
    (kk : ∀ (r : Nat) (S' : hS), PA r S' → V p l e R s m args below meth c nL g X Q S' (cells + rm.cells) (slots + rm.slots) lv (pc + 3) (.ref r :: rest)) : V p l e R s m args below meth c nL g X Q S cells slots lv pc st0 :=
  q_callS F hM hG hw1 hd hR hn hst hr d hf (fun v S' hp => by obtain ⟨r, rfl, hp⟩ := hp; exact kk r S' hp)
theorem q_callS_gv (F : hF p l s m args meth c cc nL Ts own g) (hM : hMet l y ws rm g X S As (pGV PV)) (hG : GoodIn Ts (va_wsS own index y ws)) (hw1 : ws = Cond.code y bytes maxL ret :: ws') (hd : y.cls ≠ "java/lang/invoke/MethodHandle" ∧ y.cls ≠ "java/lang/invoke/VarHandle" ∧ (parseMethodDescriptor y.desc).map (fun d => d.parameters.length) = some n) (hR : rm.frames + 1 ≤ R.frames ∧ 8 + (maxL + 11) + rm.locals ≤ R.locals) (hn : As.length = n) (hst : st0 = As.reverse ++ rest) (hr : (rest.map fun v => v.category).sum ≤ 8) (d : decode cc pc = .ok (.invokestatic index, 3)) (hf : cells + rm.cells ≤ R.cells ∧ slots + rm.slots ≤ R.slots)
    (kk : ∀ (S' : hS), PV S' → V p l e R s m args below meth c nL g X Q S' (cells + rm.cells) (slots + rm.slots) lv (pc + 3) rest) : V p l e R s m args below meth c nL g X Q S cells slots lv pc st0 :=
  q_callS F hM hG hw1 hd hR hn hst hr d hf (fun v S' hp => by obtain ⟨rfl, hp⟩ := hp; exact kk S' hp)
theorem q_callSX (F : hF p l s m args meth c cc nL Ts own g) (hM : hMetX l y ws rm g X S As post px) (hG : GoodIn Ts (va_wsS own index y ws)) (hw1 : ws = Cond.code y bytes maxL ret :: ws') (hd : y.cls ≠ "java/lang/invoke/MethodHandle" ∧ y.cls ≠ "java/lang/invoke/VarHandle" ∧ (parseMethodDescriptor y.desc).map (fun d => d.parameters.length) = some n) (hR : rm.frames + 1 ≤ R.frames ∧ 8 + (maxL + 11) + rm.locals ≤ R.locals) (hn : As.length = n) (hst : st0 = As.reverse ++ rest) (hr : (rest.map fun v => v.category).sum ≤ 8) (d : decode cc pc = .ok (.invokestatic index, 3)) (hf : cells + rm.cells ≤ R.cells ∧ slots + rm.slots ≤ R.slots)
    (kx : ∀ (E : String) (S' : hS), px E S' → VX p l e R s m args below meth c nL g X Q E S' (cells + rm.cells) (slots + rm.slots) lv pc rest)
    (kk : ∀ (v : Option Value) (S' : hS), post v S' → V p l e R s m args below meth c nL g X Q S' (cells + rm.cells) (slots + rm.slots) lv (pc + 3) (v.toList ++ rest)) : V p l e R s m args below meth c nL g X Q S cells slots lv pc st0 := by
  intro H locs ls hw0 hS0 hl
  subst hst
  exact h_callX (vx_runS F.1 hM (va_cwS n F.1.2.2.2.2 hG hw1 rfl rfl hd hR) (h_preS F.2.2.2 F.2.1 hw0 hS0) rfl hn hl.1 rfl (lv_room hr) d hf) hS0 (fun E S' H1 locs1 ce q hp hw1 hS1 a1 a2 a3 => kx E S' hp H1 locs1 ls ce q hw1 hS1 hl a1 a2 a3) (fun v S' H1 locs1 hp hw1 hS1 => kk v S' hp H1 locs1 ls hw1 hS1 hl)
theorem q_callSX_i (F : hF p l s m args meth c cc nL Ts own g) (hM : hMetX l y ws rm g X S As (pXI ri S1 Cn) (pE S Pe)) (hG : GoodIn Ts (va_wsS own index y ws)) (hw1 : ws = Cond.code y bytes maxL ret :: ws') (hd : y.cls ≠ "java/lang/invoke/MethodHandle" ∧ y.cls ≠ "java/lang/invoke/VarHandle" ∧ (parseMethodDescriptor y.desc).map (fun d => d.parameters.length) = some n) (hR : rm.frames + 1 ≤ R.frames ∧ 8 + (maxL + 11) + rm.locals ≤ R.locals) (hn : As.length = n) (hst : st0 = As.reverse ++ rest) (hr : (rest.map fun v => v.category).sum ≤ 8) (d : decode cc pc = .ok (.invokestatic index, 3)) (hf : cells + rm.cells ≤ R.cells ∧ slots + rm.slots ≤ R.slots)
    (kx : ∀ (E : String), Pe E → VX p l e R s m args below meth c nL g X Q E S (cells + rm.cells) (slots + rm.slots) lv pc rest)
    (kk : Cn → V p l e R s m args below meth c nL g X Q S1 (cells + rm.cells) (slots + rm.slots) lv (pc + 3) (.int ri :: rest)) : V p l e R s m args below meth c nL g X Q S cells slots lv pc st0 :=
  q_callSX F hM hG hw1 hd hR hn hst hr d hf (fun E S' hp => by obtain ⟨rfl, hp⟩ := hp; exact kx E hp) (fun v S' hp => by obtain ⟨rfl, rfl, hp⟩ := hp; exact kk hp)
theorem q_callSX_l (F : hF p l s m args meth c cc nL Ts own g) (hM : hMetX l y ws rm g X S As (pXL rl S1 Cn) (pE S Pe)) (hG : GoodIn Ts (va_wsS own index y ws)) (hw1 : ws = Cond.code y bytes maxL ret :: ws') (hd : y.cls ≠ "java/lang/invoke/MethodHandle" ∧ y.cls ≠ "java/lang/invoke/VarHandle" ∧ (parseMethodDescriptor y.desc).map (fun d => d.parameters.length) = some n) (hR : rm.frames + 1 ≤ R.frames ∧ 8 + (maxL + 11) + rm.locals ≤ R.locals) (hn : As.length = n) (hst : st0 = As.reverse ++ rest) (hr : (rest.map fun v => v.category).sum ≤ 8) (d : decode cc pc = .ok (.invokestatic index, 3)) (hf : cells + rm.cells ≤ R.cells ∧ slots + rm.slots ≤ R.slots)
    (kx : ∀ (E : String), Pe E → VX p l e R s m args below meth c nL g X Q E S (cells + rm.cells) (slots + rm.slots) lv pc rest)
    (kk : Cn → V p l e R s m args below meth c nL g X Q S1 (cells + rm.cells) (slots + rm.slots) lv (pc + 3) (.long rl :: rest)) : V p l e R s m args below meth c nL g X Q S cells slots lv pc st0 :=
  q_callSX F hM hG hw1 hd hR hn hst hr d hf (fun E S' hp => by obtain ⟨rfl, hp⟩ := hp; exact kx E hp) (fun v S' hp => by obtain ⟨rfl, rfl, hp⟩ := hp; exact kk hp)
theorem q_callSX_a (F : hF p l s m args meth c cc nL Ts own g) (hM : hMetX l y ws rm g X S As (pXA ra S1 Cn) (pE S Pe)) (hG : GoodIn Ts (va_wsS own index y ws)) (hw1 : ws = Cond.code y bytes maxL ret :: ws') (hd : y.cls ≠ "java/lang/invoke/MethodHandle" ∧ y.cls ≠ "java/lang/invoke/VarHandle" ∧ (parseMethodDescriptor y.desc).map (fun d => d.parameters.length) = some n) (hR : rm.frames + 1 ≤ R.frames ∧ 8 + (maxL + 11) + rm.locals ≤ R.locals) (hn : As.length = n) (hst : st0 = As.reverse ++ rest) (hr : (rest.map fun v => v.category).sum ≤ 8) (d : decode cc pc = .ok (.invokestatic index, 3)) (hf : cells + rm.cells ≤ R.cells ∧ slots + rm.slots ≤ R.slots)
    (kx : ∀ (E : String), Pe E → VX p l e R s m args below meth c nL g X Q E S (cells + rm.cells) (slots + rm.slots) lv pc rest)
    (kk : Cn → V p l e R s m args below meth c nL g X Q S1 (cells + rm.cells) (slots + rm.slots) lv (pc + 3) (.ref ra :: rest)) : V p l e R s m args below meth c nL g X Q S cells slots lv pc st0 :=
  q_callSX F hM hG hw1 hd hR hn hst hr d hf (fun E S' hp => by obtain ⟨rfl, hp⟩ := hp; exact kx E hp) (fun v S' hp => by obtain ⟨rfl, rfl, hp⟩ := hp; exact kk hp)
theorem q_callSX_o (F : hF p l s m args meth c cc nL Ts own g) (hM : hMetX l y ws rm g X S As (pXO ro S1 Cn) (pE S Pe)) (hG : GoodIn Ts (va_wsS own index y ws)) (hw1 : ws = Cond.code y bytes maxL ret :: ws') (hd : y.cls ≠ "java/lang/invoke/MethodHandle" ∧ y.cls ≠ "java/lang/invoke/VarHandle" ∧ (parseMethodDescriptor y.desc).map (fun d => d.parameters.length) = some n) (hR : rm.frames + 1 ≤ R.frames ∧ 8 + (maxL + 11) + rm.locals ≤ R.locals) (hn : As.length = n) (hst : st0 = As.reverse ++ rest) (hr : (rest.map fun v => v.category).sum ≤ 8) (d : decode cc pc = .ok (.invokestatic index, 3)) (hf : cells + rm.cells ≤ R.cells ∧ slots + rm.slots ≤ R.slots)
    (kx : ∀ (E : String), Pe E → VX p l e R s m args below meth c nL g X Q E S (cells + rm.cells) (slots + rm.slots) lv pc rest)
    (kk : Cn → V p l e R s m args below meth c nL g X Q S1 (cells + rm.cells) (slots + rm.slots) lv (pc + 3) (va_rf ro :: rest)) : V p l e R s m args below meth c nL g X Q S cells slots lv pc st0 :=
  q_callSX F hM hG hw1 hd hR hn hst hr d hf (fun E S' hp => by obtain ⟨rfl, hp⟩ := hp; exact kx E hp) (fun v S' hp => by obtain ⟨rfl, rfl, hp⟩ := hp; exact kk hp)
theorem q_callSX_v (F : hF p l s m args meth c cc nL Ts own g) (hM : hMetX l y ws rm g X S As (pXV S1 Cn) (pE S Pe)) (hG : GoodIn Ts (va_wsS own index y ws)) (hw1 : ws = Cond.code y bytes maxL ret :: ws') (hd : y.cls ≠ "java/lang/invoke/MethodHandle" ∧ y.cls ≠ "java/lang/invoke/VarHandle" ∧ (parseMethodDescriptor y.desc).map (fun d => d.parameters.length) = some n) (hR : rm.frames + 1 ≤ R.frames ∧ 8 + (maxL + 11) + rm.locals ≤ R.locals) (hn : As.length = n) (hst : st0 = As.reverse ++ rest) (hr : (rest.map fun v => v.category).sum ≤ 8) (d : decode cc pc = .ok (.invokestatic index, 3)) (hf : cells + rm.cells ≤ R.cells ∧ slots + rm.slots ≤ R.slots)
    (kx : ∀ (E : String), Pe E → VX p l e R s m args below meth c nL g X Q E S (cells + rm.cells) (slots + rm.slots) lv pc rest)
    (kk : Cn → V p l e R s m args below meth c nL g X Q S1 (cells + rm.cells) (slots + rm.slots) lv (pc + 3) rest) : V p l e R s m args below meth c nL g X Q S cells slots lv pc st0 :=
  q_callSX F hM hG hw1 hd hR hn hst hr d hf (fun E S' hp => by obtain ⟨rfl, hp⟩ := hp; exact kx E hp) (fun v S' hp => by obtain ⟨rfl, rfl, hp⟩ := hp; exact kk hp)
theorem q_callSX_gi (F : hF p l s m args meth c cc nL Ts own g) (hM : hMetX l y ws rm g X S As (pGI PI) (pE S Pe)) (hG : GoodIn Ts (va_wsS own index y ws)) (hw1 : ws = Cond.code y bytes maxL ret :: ws') (hd : y.cls ≠ "java/lang/invoke/MethodHandle" ∧ y.cls ≠ "java/lang/invoke/VarHandle" ∧ (parseMethodDescriptor y.desc).map (fun d => d.parameters.length) = some n) (hR : rm.frames + 1 ≤ R.frames ∧ 8 + (maxL + 11) + rm.locals ≤ R.locals) (hn : As.length = n) (hst : st0 = As.reverse ++ rest) (hr : (rest.map fun v => v.category).sum ≤ 8) (d : decode cc pc = .ok (.invokestatic index, 3)) (hf : cells + rm.cells ≤ R.cells ∧ slots + rm.slots ≤ R.slots)
    (kx : ∀ (E : String), Pe E → VX p l e R s m args below meth c nL g X Q E S (cells + rm.cells) (slots + rm.slots) lv pc rest)
    (kk : ∀ (r : Int32) (S' : hS), PI r S' → V p l e R s m args below meth c nL g X Q S' (cells + rm.cells) (slots + rm.slots) lv (pc + 3) (.int r :: rest)) : V p l e R s m args below meth c nL g X Q S cells slots lv pc st0 :=
  q_callSX F hM hG hw1 hd hR hn hst hr d hf (fun E S' hp => by obtain ⟨rfl, hp⟩ := hp; exact kx E hp) (fun v S' hp => by obtain ⟨r, rfl, hp⟩ := hp; exact kk r S' hp)
theorem q_callSX_gl (F : hF p l s m args meth c cc nL Ts own g) (hM : hMetX l y ws rm g X S As (pGL PL) (pE S Pe)) (hG : GoodIn Ts (va_wsS own index y ws)) (hw1 : ws = Cond.code y bytes maxL ret :: ws') (hd : y.cls ≠ "java/lang/invoke/MethodHandle" ∧ y.cls ≠ "java/lang/invoke/VarHandle" ∧ (parseMethodDescriptor y.desc).map (fun d => d.parameters.length) = some n) (hR : rm.frames + 1 ≤ R.frames ∧ 8 + (maxL + 11) + rm.locals ≤ R.locals) (hn : As.length = n) (hst : st0 = As.reverse ++ rest) (hr : (rest.map fun v => v.category).sum ≤ 8) (d : decode cc pc = .ok (.invokestatic index, 3)) (hf : cells + rm.cells ≤ R.cells ∧ slots + rm.slots ≤ R.slots)
    (kx : ∀ (E : String), Pe E → VX p l e R s m args below meth c nL g X Q E S (cells + rm.cells) (slots + rm.slots) lv pc rest)
    (kk : ∀ (r : Int64) (S' : hS), PL r S' → V p l e R s m args below meth c nL g X Q S' (cells + rm.cells) (slots + rm.slots) lv (pc + 3) (.long r :: rest)) : V p l e R s m args below meth c nL g X Q S cells slots lv pc st0 :=
  q_callSX F hM hG hw1 hd hR hn hst hr d hf (fun E S' hp => by obtain ⟨rfl, hp⟩ := hp; exact kx E hp) (fun v S' hp => by obtain ⟨r, rfl, hp⟩ := hp; exact kk r S' hp)
theorem q_callSX_ga (F : hF p l s m args meth c cc nL Ts own g) (hM : hMetX l y ws rm g X S As (pGA PA) (pE S Pe)) (hG : GoodIn Ts (va_wsS own index y ws)) (hw1 : ws = Cond.code y bytes maxL ret :: ws') (hd : y.cls ≠ "java/lang/invoke/MethodHandle" ∧ y.cls ≠ "java/lang/invoke/VarHandle" ∧ (parseMethodDescriptor y.desc).map (fun d => d.parameters.length) = some n) (hR : rm.frames + 1 ≤ R.frames ∧ 8 + (maxL + 11) + rm.locals ≤ R.locals) (hn : As.length = n) (hst : st0 = As.reverse ++ rest) (hr : (rest.map fun v => v.category).sum ≤ 8) (d : decode cc pc = .ok (.invokestatic index, 3)) (hf : cells + rm.cells ≤ R.cells ∧ slots + rm.slots ≤ R.slots)
    (kx : ∀ (E : String), Pe E → VX p l e R s m args below meth c nL g X Q E S (cells + rm.cells) (slots + rm.slots) lv pc rest)
    (kk : ∀ (r : Nat) (S' : hS), PA r S' → V p l e R s m args below meth c nL g X Q S' (cells + rm.cells) (slots + rm.slots) lv (pc + 3) (.ref r :: rest)) : V p l e R s m args below meth c nL g X Q S cells slots lv pc st0 :=
  q_callSX F hM hG hw1 hd hR hn hst hr d hf (fun E S' hp => by obtain ⟨rfl, hp⟩ := hp; exact kx E hp) (fun v S' hp => by obtain ⟨r, rfl, hp⟩ := hp; exact kk r S' hp)
theorem q_callSX_gv (F : hF p l s m args meth c cc nL Ts own g) (hM : hMetX l y ws rm g X S As (pGV PV) (pE S Pe)) (hG : GoodIn Ts (va_wsS own index y ws)) (hw1 : ws = Cond.code y bytes maxL ret :: ws') (hd : y.cls ≠ "java/lang/invoke/MethodHandle" ∧ y.cls ≠ "java/lang/invoke/VarHandle" ∧ (parseMethodDescriptor y.desc).map (fun d => d.parameters.length) = some n) (hR : rm.frames + 1 ≤ R.frames ∧ 8 + (maxL + 11) + rm.locals ≤ R.locals) (hn : As.length = n) (hst : st0 = As.reverse ++ rest) (hr : (rest.map fun v => v.category).sum ≤ 8) (d : decode cc pc = .ok (.invokestatic index, 3)) (hf : cells + rm.cells ≤ R.cells ∧ slots + rm.slots ≤ R.slots)
    (kx : ∀ (E : String), Pe E → VX p l e R s m args below meth c nL g X Q E S (cells + rm.cells) (slots + rm.slots) lv pc rest)
    (kk : ∀ (S' : hS), PV S' → V p l e R s m args below meth c nL g X Q S' (cells + rm.cells) (slots + rm.slots) lv (pc + 3) rest) : V p l e R s m args below meth c nL g X Q S cells slots lv pc st0 :=
  q_callSX F hM hG hw1 hd hR hn hst hr d hf (fun E S' hp => by obtain ⟨rfl, hp⟩ := hp; exact kx E hp) (fun v S' hp => by obtain ⟨rfl, hp⟩ := hp; exact kk S' hp)
theorem q_callI (F : hF p l s m args meth c cc nL Ts own g) (hM : hMet l y ws rm g X S (.ref b :: As) post) (hG : GoodIn Ts ws) (hw1 : ws = Cond.code y bytes maxL none :: ws') (hd : y.cls ≠ "java/lang/invoke/MethodHandle" ∧ y.cls ≠ "java/lang/invoke/VarHandle" ∧ (parseMethodDescriptor y.desc).map (fun d => d.parameters.length) = some n) (hR : rm.frames + 1 ≤ R.frames ∧ 8 + (maxL + 11) + rm.locals ≤ R.locals) (hi1 : Cond.initialized y.cls ∈ wsL_law) (hi2 : Cond.methodLink own index y ∈ wsL_law) (hi3 : Cond.instanceMethod y ∈ wsL_law) (hi4 : y.name = "<init>") (hn : As.length = n) (hst : st0 = As.reverse ++ .ref b :: rest) (hr : (rest.map fun v => v.category).sum ≤ 8) (d : decode cc pc = .ok (.invokespecial index, 3)) (hf : cells + rm.cells ≤ R.cells ∧ slots + rm.slots ≤ R.slots)
    (kk : ∀ (v : Option Value) (S' : hS), post v S' → V p l e R s m args below meth c nL g X Q S' (cells + rm.cells) (slots + rm.slots) lv (pc + 3) (v.toList ++ rest)) : V p l e R s m args below meth c nL g X Q S cells slots lv pc st0 := by
  intro H locs ls hw0 hS0 hl
  subst hst
  exact h_call (va_runI F.1 hM (cwI n F.1.2.2.2.2 hG hw1 rfl rfl (hk_word F.2.1 hi1 args) (hk_word F.2.1 hi2 args) (hk_word F.2.1 hi3 args) hi4 hd hR) (h_preS F.2.2.2 F.2.1 hw0 hS0) rfl hn hl.1 rfl (lv_room hr) d hf) hS0 (fun v S' H1 locs1 hp hw1 hS1 => kk v S' hp H1 locs1 ls hw1 hS1 hl)
theorem q_callI_v (F : hF p l s m args meth c cc nL Ts own g) (hM : hMet l y ws rm g X S (.ref b :: As) (pV S1)) (hG : GoodIn Ts ws) (hw1 : ws = Cond.code y bytes maxL none :: ws') (hd : y.cls ≠ "java/lang/invoke/MethodHandle" ∧ y.cls ≠ "java/lang/invoke/VarHandle" ∧ (parseMethodDescriptor y.desc).map (fun d => d.parameters.length) = some n) (hR : rm.frames + 1 ≤ R.frames ∧ 8 + (maxL + 11) + rm.locals ≤ R.locals) (hi1 : Cond.initialized y.cls ∈ wsL_law) (hi2 : Cond.methodLink own index y ∈ wsL_law) (hi3 : Cond.instanceMethod y ∈ wsL_law) (hi4 : y.name = "<init>") (hn : As.length = n) (hst : st0 = As.reverse ++ .ref b :: rest) (hr : (rest.map fun v => v.category).sum ≤ 8) (d : decode cc pc = .ok (.invokespecial index, 3)) (hf : cells + rm.cells ≤ R.cells ∧ slots + rm.slots ≤ R.slots)
    (kk : V p l e R s m args below meth c nL g X Q S1 (cells + rm.cells) (slots + rm.slots) lv (pc + 3) rest) : V p l e R s m args below meth c nL g X Q S cells slots lv pc st0 :=
  q_callI F hM hG hw1 hd hR hi1 hi2 hi3 hi4 hn hst hr d hf (fun v S' hp => by obtain ⟨rfl, rfl⟩ := hp; exact kk)
theorem q_callI_gv (F : hF p l s m args meth c cc nL Ts own g) (hM : hMet l y ws rm g X S (.ref b :: As) (pGV PV)) (hG : GoodIn Ts ws) (hw1 : ws = Cond.code y bytes maxL none :: ws') (hd : y.cls ≠ "java/lang/invoke/MethodHandle" ∧ y.cls ≠ "java/lang/invoke/VarHandle" ∧ (parseMethodDescriptor y.desc).map (fun d => d.parameters.length) = some n) (hR : rm.frames + 1 ≤ R.frames ∧ 8 + (maxL + 11) + rm.locals ≤ R.locals) (hi1 : Cond.initialized y.cls ∈ wsL_law) (hi2 : Cond.methodLink own index y ∈ wsL_law) (hi3 : Cond.instanceMethod y ∈ wsL_law) (hi4 : y.name = "<init>") (hn : As.length = n) (hst : st0 = As.reverse ++ .ref b :: rest) (hr : (rest.map fun v => v.category).sum ≤ 8) (d : decode cc pc = .ok (.invokespecial index, 3)) (hf : cells + rm.cells ≤ R.cells ∧ slots + rm.slots ≤ R.slots)
    (kk : ∀ (S' : hS), PV S' → V p l e R s m args below meth c nL g X Q S' (cells + rm.cells) (slots + rm.slots) lv (pc + 3) rest) : V p l e R s m args below meth c nL g X Q S cells slots lv pc st0 :=
  q_callI F hM hG hw1 hd hR hi1 hi2 hi3 hi4 hn hst hr d hf (fun v S' hp => by obtain ⟨rfl, hp⟩ := hp; exact kk S' hp)
theorem q_callSN (F : hF p l s m args meth c cc nL Ts own g) (hM : hMet l y ws rm g X S As post) (hG : GoodIn Ts ws) (hw1 : ws = Cond.code y bytes maxL ret :: ws') (hd : y.cls ≠ "java/lang/invoke/MethodHandle" ∧ y.cls ≠ "java/lang/invoke/VarHandle" ∧ (parseMethodDescriptor y.desc).map (fun d => d.parameters.length) = some n) (hR : rm.frames + 1 ≤ R.frames ∧ 8 + (maxL + 11) + rm.locals ≤ R.locals) (hi1 : Cond.initialized y.cls ∈ wsL_law) (hi2 : (own, index, y) ∈ hNM) (hi3 : Cond.static y ∈ wsL_law) (hn : As.length = n) (hst : st0 = As.reverse ++ rest) (hr : (rest.map fun v => v.category).sum ≤ 8) (d : decode cc pc = .ok (.invokestatic index, 3)) (hf : cells + rm.cells ≤ R.cells ∧ slots + rm.slots ≤ R.slots)
    (kk : ∀ (v : Option Value) (S' : hS), post v S' → V p l e R s m args below meth c nL g X Q S' (cells + rm.cells) (slots + rm.slots) lv (pc + 3) (v.toList ++ rest)) : V p l e R s m args below meth c nL g X Q S cells slots lv pc st0 := by
  intro H locs ls hw0 hS0 hl
  subst hst
  exact h_call (va_runSN F.1 hM ⟨va_cnB n F.1.2.2.2.2 hG hw1 rfl rfl (F.2.1.2.2.2.2.2.1 _ hi2) (hk_word F.2.1 hi1 args) hd hR, hk_word F.2.1 hi3 args, trivial⟩ (h_preS F.2.2.2 F.2.1 hw0 hS0) rfl hn hl.1 rfl (lv_room hr) d hf) hS0 (fun v S' H1 locs1 hp hw1 hS1 => kk v S' hp H1 locs1 ls hw1 hS1 hl)
theorem q_callSN_i (F : hF p l s m args meth c cc nL Ts own g) (hM : hMet l y ws rm g X S As (pI ri S1)) (hG : GoodIn Ts ws) (hw1 : ws = Cond.code y bytes maxL ret :: ws') (hd : y.cls ≠ "java/lang/invoke/MethodHandle" ∧ y.cls ≠ "java/lang/invoke/VarHandle" ∧ (parseMethodDescriptor y.desc).map (fun d => d.parameters.length) = some n) (hR : rm.frames + 1 ≤ R.frames ∧ 8 + (maxL + 11) + rm.locals ≤ R.locals) (hi1 : Cond.initialized y.cls ∈ wsL_law) (hi2 : (own, index, y) ∈ hNM) (hi3 : Cond.static y ∈ wsL_law) (hn : As.length = n) (hst : st0 = As.reverse ++ rest) (hr : (rest.map fun v => v.category).sum ≤ 8) (d : decode cc pc = .ok (.invokestatic index, 3)) (hf : cells + rm.cells ≤ R.cells ∧ slots + rm.slots ≤ R.slots)
    (kk : V p l e R s m args below meth c nL g X Q S1 (cells + rm.cells) (slots + rm.slots) lv (pc + 3) (.int ri :: rest)) : V p l e R s m args below meth c nL g X Q S cells slots lv pc st0 :=
  q_callSN F hM hG hw1 hd hR hi1 hi2 hi3 hn hst hr d hf (fun v S' hp => by obtain ⟨rfl, rfl⟩ := hp; exact kk)
theorem q_callSN_l (F : hF p l s m args meth c cc nL Ts own g) (hM : hMet l y ws rm g X S As (pL rl S1)) (hG : GoodIn Ts ws) (hw1 : ws = Cond.code y bytes maxL ret :: ws') (hd : y.cls ≠ "java/lang/invoke/MethodHandle" ∧ y.cls ≠ "java/lang/invoke/VarHandle" ∧ (parseMethodDescriptor y.desc).map (fun d => d.parameters.length) = some n) (hR : rm.frames + 1 ≤ R.frames ∧ 8 + (maxL + 11) + rm.locals ≤ R.locals) (hi1 : Cond.initialized y.cls ∈ wsL_law) (hi2 : (own, index, y) ∈ hNM) (hi3 : Cond.static y ∈ wsL_law) (hn : As.length = n) (hst : st0 = As.reverse ++ rest) (hr : (rest.map fun v => v.category).sum ≤ 8) (d : decode cc pc = .ok (.invokestatic index, 3)) (hf : cells + rm.cells ≤ R.cells ∧ slots + rm.slots ≤ R.slots)
    (kk : V p l e R s m args below meth c nL g X Q S1 (cells + rm.cells) (slots + rm.slots) lv (pc + 3) (.long rl :: rest)) : V p l e R s m args below meth c nL g X Q S cells slots lv pc st0 :=
  q_callSN F hM hG hw1 hd hR hi1 hi2 hi3 hn hst hr d hf (fun v S' hp => by obtain ⟨rfl, rfl⟩ := hp; exact kk)
theorem q_callSN_a (F : hF p l s m args meth c cc nL Ts own g) (hM : hMet l y ws rm g X S As (pA ra S1)) (hG : GoodIn Ts ws) (hw1 : ws = Cond.code y bytes maxL ret :: ws') (hd : y.cls ≠ "java/lang/invoke/MethodHandle" ∧ y.cls ≠ "java/lang/invoke/VarHandle" ∧ (parseMethodDescriptor y.desc).map (fun d => d.parameters.length) = some n) (hR : rm.frames + 1 ≤ R.frames ∧ 8 + (maxL + 11) + rm.locals ≤ R.locals) (hi1 : Cond.initialized y.cls ∈ wsL_law) (hi2 : (own, index, y) ∈ hNM) (hi3 : Cond.static y ∈ wsL_law) (hn : As.length = n) (hst : st0 = As.reverse ++ rest) (hr : (rest.map fun v => v.category).sum ≤ 8) (d : decode cc pc = .ok (.invokestatic index, 3)) (hf : cells + rm.cells ≤ R.cells ∧ slots + rm.slots ≤ R.slots)
    (kk : V p l e R s m args below meth c nL g X Q S1 (cells + rm.cells) (slots + rm.slots) lv (pc + 3) (.ref ra :: rest)) : V p l e R s m args below meth c nL g X Q S cells slots lv pc st0 :=
  q_callSN F hM hG hw1 hd hR hi1 hi2 hi3 hn hst hr d hf (fun v S' hp => by obtain ⟨rfl, rfl⟩ := hp; exact kk)
theorem q_callSN_o (F : hF p l s m args meth c cc nL Ts own g) (hM : hMet l y ws rm g X S As (pO ro S1)) (hG : GoodIn Ts ws) (hw1 : ws = Cond.code y bytes maxL ret :: ws') (hd : y.cls ≠ "java/lang/invoke/MethodHandle" ∧ y.cls ≠ "java/lang/invoke/VarHandle" ∧ (parseMethodDescriptor y.desc).map (fun d => d.parameters.length) = some n) (hR : rm.frames + 1 ≤ R.frames ∧ 8 + (maxL + 11) + rm.locals ≤ R.locals) (hi1 : Cond.initialized y.cls ∈ wsL_law) (hi2 : (own, index, y) ∈ hNM) (hi3 : Cond.static y ∈ wsL_law) (hn : As.length = n) (hst : st0 = As.reverse ++ rest) (hr : (rest.map fun v => v.category).sum ≤ 8) (d : decode cc pc = .ok (.invokestatic index, 3)) (hf : cells + rm.cells ≤ R.cells ∧ slots + rm.slots ≤ R.slots)
    (kk : V p l e R s m args below meth c nL g X Q S1 (cells + rm.cells) (slots + rm.slots) lv (pc + 3) (va_rf ro :: rest)) : V p l e R s m args below meth c nL g X Q S cells slots lv pc st0 :=
  q_callSN F hM hG hw1 hd hR hi1 hi2 hi3 hn hst hr d hf (fun v S' hp => by obtain ⟨rfl, rfl⟩ := hp; exact kk)
theorem q_callSN_v (F : hF p l s m args meth c cc nL Ts own g) (hM : hMet l y ws rm g X S As (pV S1)) (hG : GoodIn Ts ws) (hw1 : ws = Cond.code y bytes maxL ret :: ws') (hd : y.cls ≠ "java/lang/invoke/MethodHandle" ∧ y.cls ≠ "java/lang/invoke/VarHandle" ∧ (parseMethodDescriptor y.desc).map (fun d => d.parameters.length) = some n) (hR : rm.frames + 1 ≤ R.frames ∧ 8 + (maxL + 11) + rm.locals ≤ R.locals) (hi1 : Cond.initialized y.cls ∈ wsL_law) (hi2 : (own, index, y) ∈ hNM) (hi3 : Cond.static y ∈ wsL_law) (hn : As.length = n) (hst : st0 = As.reverse ++ rest) (hr : (rest.map fun v => v.category).sum ≤ 8) (d : decode cc pc = .ok (.invokestatic index, 3)) (hf : cells + rm.cells ≤ R.cells ∧ slots + rm.slots ≤ R.slots)
    (kk : V p l e R s m args below meth c nL g X Q S1 (cells + rm.cells) (slots + rm.slots) lv (pc + 3) rest) : V p l e R s m args below meth c nL g X Q S cells slots lv pc st0 :=
  q_callSN F hM hG hw1 hd hR hi1 hi2 hi3 hn hst hr d hf (fun v S' hp => by obtain ⟨rfl, rfl⟩ := hp; exact kk)
theorem q_callSN_gi (F : hF p l s m args meth c cc nL Ts own g) (hM : hMet l y ws rm g X S As (pGI PI)) (hG : GoodIn Ts ws) (hw1 : ws = Cond.code y bytes maxL ret :: ws') (hd : y.cls ≠ "java/lang/invoke/MethodHandle" ∧ y.cls ≠ "java/lang/invoke/VarHandle" ∧ (parseMethodDescriptor y.desc).map (fun d => d.parameters.length) = some n) (hR : rm.frames + 1 ≤ R.frames ∧ 8 + (maxL + 11) + rm.locals ≤ R.locals) (hi1 : Cond.initialized y.cls ∈ wsL_law) (hi2 : (own, index, y) ∈ hNM) (hi3 : Cond.static y ∈ wsL_law) (hn : As.length = n) (hst : st0 = As.reverse ++ rest) (hr : (rest.map fun v => v.category).sum ≤ 8) (d : decode cc pc = .ok (.invokestatic index, 3)) (hf : cells + rm.cells ≤ R.cells ∧ slots + rm.slots ≤ R.slots)
    (kk : ∀ (r : Int32) (S' : hS), PI r S' → V p l e R s m args below meth c nL g X Q S' (cells + rm.cells) (slots + rm.slots) lv (pc + 3) (.int r :: rest)) : V p l e R s m args below meth c nL g X Q S cells slots lv pc st0 :=
  q_callSN F hM hG hw1 hd hR hi1 hi2 hi3 hn hst hr d hf (fun v S' hp => by obtain ⟨r, rfl, hp⟩ := hp; exact kk r S' hp)
theorem q_callSN_gl (F : hF p l s m args meth c cc nL Ts own g) (hM : hMet l y ws rm g X S As (pGL PL)) (hG : GoodIn Ts ws) (hw1 : ws = Cond.code y bytes maxL ret :: ws') (hd : y.cls ≠ "java/lang/invoke/MethodHandle" ∧ y.cls ≠ "java/lang/invoke/VarHandle" ∧ (parseMethodDescriptor y.desc).map (fun d => d.parameters.length) = some n) (hR : rm.frames + 1 ≤ R.frames ∧ 8 + (maxL + 11) + rm.locals ≤ R.locals) (hi1 : Cond.initialized y.cls ∈ wsL_law) (hi2 : (own, index, y) ∈ hNM) (hi3 : Cond.static y ∈ wsL_law) (hn : As.length = n) (hst : st0 = As.reverse ++ rest) (hr : (rest.map fun v => v.category).sum ≤ 8) (d : decode cc pc = .ok (.invokestatic index, 3)) (hf : cells + rm.cells ≤ R.cells ∧ slots + rm.slots ≤ R.slots)
    (kk : ∀ (r : Int64) (S' : hS), PL r S' → V p l e R s m args below meth c nL g X Q S' (cells + rm.cells) (slots + rm.slots) lv (pc + 3) (.long r :: rest)) : V p l e R s m args below meth c nL g X Q S cells slots lv pc st0 :=
  q_callSN F hM hG hw1 hd hR hi1 hi2 hi3 hn hst hr d hf (fun v S' hp => by obtain ⟨r, rfl, hp⟩ := hp; exact kk r S' hp)
theorem q_callSN_ga (F : hF p l s m args meth c cc nL Ts own g) (hM : hMet l y ws rm g X S As (pGA PA)) (hG : GoodIn Ts ws) (hw1 : ws = Cond.code y bytes maxL ret :: ws') (hd : y.cls ≠ "java/lang/invoke/MethodHandle" ∧ y.cls ≠ "java/lang/invoke/VarHandle" ∧ (parseMethodDescriptor y.desc).map (fun d => d.parameters.length) = some n) (hR : rm.frames + 1 ≤ R.frames ∧ 8 + (maxL + 11) + rm.locals ≤ R.locals) (hi1 : Cond.initialized y.cls ∈ wsL_law) (hi2 : (own, index, y) ∈ hNM) (hi3 : Cond.static y ∈ wsL_law) (hn : As.length = n) (hst : st0 = As.reverse ++ rest) (hr : (rest.map fun v => v.category).sum ≤ 8) (d : decode cc pc = .ok (.invokestatic index, 3)) (hf : cells + rm.cells ≤ R.cells ∧ slots + rm.slots ≤ R.slots)
    (kk : ∀ (r : Nat) (S' : hS), PA r S' → V p l e R s m args below meth c nL g X Q S' (cells + rm.cells) (slots + rm.slots) lv (pc + 3) (.ref r :: rest)) : V p l e R s m args below meth c nL g X Q S cells slots lv pc st0 :=
  q_callSN F hM hG hw1 hd hR hi1 hi2 hi3 hn hst hr d hf (fun v S' hp => by obtain ⟨r, rfl, hp⟩ := hp; exact kk r S' hp)
theorem q_callSN_gv (F : hF p l s m args meth c cc nL Ts own g) (hM : hMet l y ws rm g X S As (pGV PV)) (hG : GoodIn Ts ws) (hw1 : ws = Cond.code y bytes maxL ret :: ws') (hd : y.cls ≠ "java/lang/invoke/MethodHandle" ∧ y.cls ≠ "java/lang/invoke/VarHandle" ∧ (parseMethodDescriptor y.desc).map (fun d => d.parameters.length) = some n) (hR : rm.frames + 1 ≤ R.frames ∧ 8 + (maxL + 11) + rm.locals ≤ R.locals) (hi1 : Cond.initialized y.cls ∈ wsL_law) (hi2 : (own, index, y) ∈ hNM) (hi3 : Cond.static y ∈ wsL_law) (hn : As.length = n) (hst : st0 = As.reverse ++ rest) (hr : (rest.map fun v => v.category).sum ≤ 8) (d : decode cc pc = .ok (.invokestatic index, 3)) (hf : cells + rm.cells ≤ R.cells ∧ slots + rm.slots ≤ R.slots)
    (kk : ∀ (S' : hS), PV S' → V p l e R s m args below meth c nL g X Q S' (cells + rm.cells) (slots + rm.slots) lv (pc + 3) rest) : V p l e R s m args below meth c nL g X Q S cells slots lv pc st0 :=
  q_callSN F hM hG hw1 hd hR hi1 hi2 hi3 hn hst hr d hf (fun v S' hp => by obtain ⟨rfl, hp⟩ := hp; exact kk S' hp)
theorem q_callIN (F : hF p l s m args meth c cc nL Ts own g) (hM : hMet l y ws rm g X S (.ref b :: As) post) (hG : GoodIn Ts ws) (hw1 : ws = Cond.code y bytes maxL none :: ws') (hd : y.cls ≠ "java/lang/invoke/MethodHandle" ∧ y.cls ≠ "java/lang/invoke/VarHandle" ∧ (parseMethodDescriptor y.desc).map (fun d => d.parameters.length) = some n) (hR : rm.frames + 1 ≤ R.frames ∧ 8 + (maxL + 11) + rm.locals ≤ R.locals) (hi1 : Cond.initialized y.cls ∈ wsL_law) (hi2 : (own, index, y) ∈ hNM) (hi3 : Cond.instanceMethod y ∈ wsL_law) (hi4 : y.name = "<init>") (hn : As.length = n) (hst : st0 = As.reverse ++ .ref b :: rest) (hr : (rest.map fun v => v.category).sum ≤ 8) (d : decode cc pc = .ok (.invokespecial index, 3)) (hf : cells + rm.cells ≤ R.cells ∧ slots + rm.slots ≤ R.slots)
    (kk : ∀ (v : Option Value) (S' : hS), post v S' → V p l e R s m args below meth c nL g X Q S' (cells + rm.cells) (slots + rm.slots) lv (pc + 3) (v.toList ++ rest)) : V p l e R s m args below meth c nL g X Q S cells slots lv pc st0 := by
  intro H locs ls hw0 hS0 hl
  subst hst
  exact h_call (va_runIN F.1 hM ⟨va_cnB n F.1.2.2.2.2 hG hw1 rfl rfl (F.2.1.2.2.2.2.2.1 _ hi2) (hk_word F.2.1 hi1 args) hd hR, hi4, hk_word F.2.1 hi3 args⟩ (h_preS F.2.2.2 F.2.1 hw0 hS0) rfl hn hl.1 rfl (lv_room hr) d hf) hS0 (fun v S' H1 locs1 hp hw1 hS1 => kk v S' hp H1 locs1 ls hw1 hS1 hl)
theorem q_callIN_v (F : hF p l s m args meth c cc nL Ts own g) (hM : hMet l y ws rm g X S (.ref b :: As) (pV S1)) (hG : GoodIn Ts ws) (hw1 : ws = Cond.code y bytes maxL none :: ws') (hd : y.cls ≠ "java/lang/invoke/MethodHandle" ∧ y.cls ≠ "java/lang/invoke/VarHandle" ∧ (parseMethodDescriptor y.desc).map (fun d => d.parameters.length) = some n) (hR : rm.frames + 1 ≤ R.frames ∧ 8 + (maxL + 11) + rm.locals ≤ R.locals) (hi1 : Cond.initialized y.cls ∈ wsL_law) (hi2 : (own, index, y) ∈ hNM) (hi3 : Cond.instanceMethod y ∈ wsL_law) (hi4 : y.name = "<init>") (hn : As.length = n) (hst : st0 = As.reverse ++ .ref b :: rest) (hr : (rest.map fun v => v.category).sum ≤ 8) (d : decode cc pc = .ok (.invokespecial index, 3)) (hf : cells + rm.cells ≤ R.cells ∧ slots + rm.slots ≤ R.slots)
    (kk : V p l e R s m args below meth c nL g X Q S1 (cells + rm.cells) (slots + rm.slots) lv (pc + 3) rest) : V p l e R s m args below meth c nL g X Q S cells slots lv pc st0 :=
  q_callIN F hM hG hw1 hd hR hi1 hi2 hi3 hi4 hn hst hr d hf (fun v S' hp => by obtain ⟨rfl, rfl⟩ := hp; exact kk)
theorem q_callIN_gv (F : hF p l s m args meth c cc nL Ts own g) (hM : hMet l y ws rm g X S (.ref b :: As) (pGV PV)) (hG : GoodIn Ts ws) (hw1 : ws = Cond.code y bytes maxL none :: ws') (hd : y.cls ≠ "java/lang/invoke/MethodHandle" ∧ y.cls ≠ "java/lang/invoke/VarHandle" ∧ (parseMethodDescriptor y.desc).map (fun d => d.parameters.length) = some n) (hR : rm.frames + 1 ≤ R.frames ∧ 8 + (maxL + 11) + rm.locals ≤ R.locals) (hi1 : Cond.initialized y.cls ∈ wsL_law) (hi2 : (own, index, y) ∈ hNM) (hi3 : Cond.instanceMethod y ∈ wsL_law) (hi4 : y.name = "<init>") (hn : As.length = n) (hst : st0 = As.reverse ++ .ref b :: rest) (hr : (rest.map fun v => v.category).sum ≤ 8) (d : decode cc pc = .ok (.invokespecial index, 3)) (hf : cells + rm.cells ≤ R.cells ∧ slots + rm.slots ≤ R.slots)
    (kk : ∀ (S' : hS), PV S' → V p l e R s m args below meth c nL g X Q S' (cells + rm.cells) (slots + rm.slots) lv (pc + 3) rest) : V p l e R s m args below meth c nL g X Q S cells slots lv pc st0 :=
  q_callIN F hM hG hw1 hd hR hi1 hi2 hi3 hi4 hn hst hr d hf (fun v S' hp => by obtain ⟨rfl, hp⟩ := hp; exact kk S' hp)
end HCalls
end
section
/-! locals by their numbers -/
def hget : List (Nat × Value) → Nat → Option Value
  | [], _ => none
  | q :: r, i => if q.1 = i then some q.2 else hget r i
def hset : List (Nat × Value) → Nat → Value → List (Nat × Value)
  | [], i, v => [(i, v)]
  | q :: r, i, v => if q.1 = i then hset r i v else q :: hset r i v
/-- no long stands ahead of the place i -/
def hfree1 (i : Nat) : List (Nat × Value) → Bool
  | [] => true
  | q :: r => !(q.1 + 1 == i && q.2.category == 2) && hfree1 i r
def hfree2 (i : Nat) : List (Nat × Value) → Bool
  | [] => true
  | q :: r => (!(q.1 == i + 1) && !(q.1 + 1 == i && q.2.category == 2)) && hfree2 i r
def hall (lv : List (Nat × Value)) : List (Nat × Value) → Prop
  | [] => True
  | q :: r => hget lv q.1 = some q.2 ∧ hall lv r
theorem hget_mem : ∀ {lv : List (Nat × Value)} {i : Nat} {v : Value}, hget lv i = some v → (i, v) ∈ lv
  | [], i, v, h => by cases h
  | q :: r, i, v, h => by
    unfold hget at h
    by_cases hq : q.1 = i
    · rw [if_pos hq] at h
      cases h
      rw [← hq]
      exact List.mem_cons_self
    · rw [if_neg hq] at h
      exact List.mem_cons_of_mem _ (hget_mem h)
theorem hset_mem : ∀ {lv : List (Nat × Value)} {i : Nat} {v : Value} {q : Nat × Value}, q ∈ hset lv i v → q = (i, v) ∨ (q ∈ lv ∧ q.1 ≠ i)
  | [], i, v, q, h => by
    unfold hset at h
    exact Or.inl (List.mem_singleton.mp h)
  | z :: r, i, v, q, h => by
    unfold hset at h
    by_cases hz : z.1 = i
    · rw [if_pos hz] at h
      rcases hset_mem h with h1 | ⟨h1, h2⟩
      · exact Or.inl h1
      · exact Or.inr ⟨List.mem_cons_of_mem _ h1, h2⟩
    · rw [if_neg hz] at h
      rcases List.mem_cons.mp h with h1 | h1
      · subst h1
        exact Or.inr ⟨List.mem_cons_self, hz⟩
      · rcases hset_mem h1 with h2 | ⟨h2, h3⟩
        · exact Or.inl h2
        · exact Or.inr ⟨List.mem_cons_of_mem _ h2, h3⟩
theorem hfree1_mem : ∀ {lv : List (Nat × Value)} {i : Nat}, hfree1 i lv = true → ∀ q ∈ lv, (!(q.1 + 1 == i && q.2.category == 2)) = true
  | [], i, _, q, h => by cases h
  | z :: r, i, h, q, hq => by
    unfold hfree1 at h
    rw [Bool.and_eq_true] at h
    rcases List.mem_cons.mp hq with h1 | h1
    · subst h1; exact h.1
    · exact hfree1_mem h.2 q h1
theorem hfree2_mem : ∀ {lv : List (Nat × Value)} {i : Nat}, hfree2 i lv = true → ∀ q ∈ lv, (!(q.1 == i + 1) && !(q.1 + 1 == i && q.2.category == 2)) = true
  | [], i, _, q, h => by cases h
  | z :: r, i, h, q, hq => by
    unfold hfree2 at h
    rw [Bool.and_eq_true] at h
    rcases List.mem_cons.mp hq with h1 | h1
    · subst h1; exact h.1
    · exact hfree2_mem h.2 q h1
theorem hset_has1 {ls : Array Slot} {nL : Nat} {lv : List (Nat × Value)} {i : Nat} {v : Value} (hf : hfree1 i lv = true) (h : lv_has ls nL ((i, v) :: lv.filter (fun q => !(q.1 == i) && !(q.1 + 1 == i && q.2.category == 2)))) : lv_has ls nL (hset lv i v) := by
  refine ⟨h.1, h.2.1, fun q hq => h.2.2 q ?_⟩
  rcases hset_mem hq with h1 | ⟨h1, h2⟩
  · rw [h1]; exact List.mem_cons_self
  · refine List.mem_cons_of_mem _ (List.mem_filter.mpr ⟨h1, ?_⟩)
    rw [Bool.and_eq_true]
    exact ⟨by simpa using h2, hfree1_mem hf q h1⟩
theorem hset_has2 {ls : Array Slot} {nL : Nat} {lv : List (Nat × Value)} {i : Nat} {v : Value} (hf : hfree2 i lv = true) (h : lv_has ls nL ((i, v) :: lv.filter (fun q => !(q.1 == i) && (!(q.1 == i + 1) && !(q.1 + 1 == i && q.2.category == 2))))) : lv_has ls nL (hset lv i v) := by
  refine ⟨h.1, h.2.1, fun q hq => h.2.2 q ?_⟩
  rcases hset_mem hq with h1 | ⟨h1, h2⟩
  · rw [h1]; exact List.mem_cons_self
  · refine List.mem_cons_of_mem _ (List.mem_filter.mpr ⟨h1, ?_⟩)
    rw [Bool.and_eq_true]
    exact ⟨by simpa using h2, hfree2_mem hf q h1⟩
theorem hall_mem : ∀ {lv lv' : List (Nat × Value)}, hall lv lv' → ∀ q ∈ lv', q ∈ lv
  | lv, [], _, q, h => by cases h
  | lv, z :: r, h, q, hq => by
    rcases List.mem_cons.mp hq with h1 | h1
    · subst h1; exact hget_mem h.1
    · exact hall_mem h.2 q h1
section HIns
variable {p : Program} {l : Launch} {e : Env} {R : Room} {s : State} {m : MethodId} {args : Array Value} {below : List Frame} {meth : Method} {c : Code} {nL : Nat} {g : hG} {X : va_W} {Q : State → Prop} {S : hS} {cells slots : Nat} {lv : List (Nat × Value)} {pc : Nat} {st rest : List Value} {cc : ByteArray} {Ts : List Cond} {own : String}
theorem h_loc {ls : Array Slot} {i : Nat} {v : Value} (hl : lv_has ls nL lv) (h : hget lv i = some v) : ls[i]? = some (.val v) := hl.2.2 (i, v) (hget_mem h)
/-- the same locals as another list tells them -/
theorem q_to {lv' : List (Nat × Value)} (kk : V p l e R s m args below meth c nL g X Q S cells slots lv' pc st) (h : hall lv lv') : V p l e R s m args below meth c nL g X Q S cells slots lv pc st := q_lv (hall_mem h) kk
/-- two roads that meet at tgt with a value on the stack -/
theorem q_cut {tgt : Nat} (v : Value) (st1 : List Value) (kk : V p l e R s m args below meth c nL g X Q S cells slots lv tgt (v :: st1)) (h : V p l e R s m args below meth c nL g X Q S cells slots lv tgt (v :: st1) → V p l e R s m args below meth c nL g X Q S cells slots lv pc st) : V p l e R s m args below meth c nL g X Q S cells slots lv pc st := h kk
theorem q_top {v v' : Value} (kk : V p l e R s m args below meth c nL g X Q S cells slots lv pc (v' :: st)) (h : v = v') : V p l e R s m args below meth c nL g X Q S cells slots lv pc (v :: st) := h ▸ kk
theorem q_pool {S' : hS} (kk : V p l e R s m args below meth c nL g X Q S' cells slots lv pc st) (h : S = S') : V p l e R s m args below meth c nL g X Q S cells slots lv pc st := h ▸ kk
theorem q_iconst (F : hF p l s m args meth c cc nL Ts own g) {n : Int} {v : Int32} (d : decode cc pc = .ok (.iconst n, 1)) (hv : Int32.ofInt n = v)
    (kk : V p l e R s m args below meth c nL g X Q S cells slots lv (pc + 1) (.int v :: st)) : V p l e R s m args below meth c nL g X Q S cells slots lv pc st := fun H locs ls hw0 hS0 hl => lv_iconst F.1.1 F.1.2.1 d hv (kk H locs ls hw0 hS0 hl)
theorem q_bipush (F : hF p l s m args meth c cc nL Ts own g) {n : Int} {v : Int32} (d : decode cc pc = .ok (.bipush n, 2)) (hv : (Int8.ofInt n).toInt32 = v)
    (kk : V p l e R s m args below meth c nL g X Q S cells slots lv (pc + 2) (.int v :: st)) : V p l e R s m args below meth c nL g X Q S cells slots lv pc st := fun H locs ls hw0 hS0 hl => lv_bipush F.1.1 F.1.2.1 d hv (kk H locs ls hw0 hS0 hl)
theorem q_sipush (F : hF p l s m args meth c cc nL Ts own g) {n : Int} {v : Int32} (d : decode cc pc = .ok (.sipush n, 3)) (hv : (Int16.ofInt n).toInt32 = v)
    (kk : V p l e R s m args below meth c nL g X Q S cells slots lv (pc + 3) (.int v :: st)) : V p l e R s m args below meth c nL g X Q S cells slots lv pc st := fun H locs ls hw0 hS0 hl => lv_sipush F.1.1 F.1.2.1 d hv (kk H locs ls hw0 hS0 hl)
theorem q_lconst (F : hF p l s m args meth c cc nL Ts own g) {n : Fin 2} {v : Int64} (d : decode cc pc = .ok (.lconst n, 1)) (hv : Int64.ofNat (n : Nat) = v)
    (kk : V p l e R s m args below meth c nL g X Q S cells slots lv (pc + 1) (.long v :: st)) : V p l e R s m args below meth c nL g X Q S cells slots lv pc st := fun H locs ls hw0 hS0 hl => lv_lconst F.1.1 F.1.2.1 d hv (kk H locs ls hw0 hS0 hl)
theorem q_iload_n (F : hF p l s m args meth c cc nL Ts own g) {k : Fin 4} (i : Nat) {x : Int32} (d : decode cc pc = .ok (.iload_n k, 1)) (hi : (k : Nat) = i) (h : hget lv i = some (.int x))
    (kk : V p l e R s m args below meth c nL g X Q S cells slots lv (pc + 1) (.int x :: st)) : V p l e R s m args below meth c nL g X Q S cells slots lv pc st := fun H locs ls hw0 hS0 hl => lv_iload_n F.1.1 F.1.2.1 d hi (h_loc hl h) (kk H locs ls hw0 hS0 hl)
theorem q_iload (F : hF p l s m args meth c cc nL Ts own g) {i : Nat} {x : Int32} (d : decode cc pc = .ok (.iload i, 2)) (h : hget lv i = some (.int x))
    (kk : V p l e R s m args below meth c nL g X Q S cells slots lv (pc + 2) (.int x :: st)) : V p l e R s m args below meth c nL g X Q S cells slots lv pc st := fun H locs ls hw0 hS0 hl => lv_iload F.1.1 F.1.2.1 d (h_loc hl h) (kk H locs ls hw0 hS0 hl)
theorem q_lload_n (F : hF p l s m args meth c cc nL Ts own g) {k : Fin 4} (i : Nat) {x : Int64} (d : decode cc pc = .ok (.lload_n k, 1)) (hi : (k : Nat) = i) (h : hget lv i = some (.long x))
    (kk : V p l e R s m args below meth c nL g X Q S cells slots lv (pc + 1) (.long x :: st)) : V p l e R s m args below meth c nL g X Q S cells slots lv pc st := fun H locs ls hw0 hS0 hl => lv_lload_n F.1.1 F.1.2.1 d hi (h_loc hl h) (kk H locs ls hw0 hS0 hl)
theorem q_lload (F : hF p l s m args meth c cc nL Ts own g) {i : Nat} {x : Int64} (d : decode cc pc = .ok (.lload i, 2)) (h : hget lv i = some (.long x))
    (kk : V p l e R s m args below meth c nL g X Q S cells slots lv (pc + 2) (.long x :: st)) : V p l e R s m args below meth c nL g X Q S cells slots lv pc st := fun H locs ls hw0 hS0 hl => lv_lload F.1.1 F.1.2.1 d (h_loc hl h) (kk H locs ls hw0 hS0 hl)
theorem q_aload_n (F : hF p l s m args meth c cc nL Ts own g) {k : Fin 4} (i : Nat) {x : Nat} (d : decode cc pc = .ok (.aload_n k, 1)) (hi : (k : Nat) = i) (h : hget lv i = some (.ref x))
    (kk : V p l e R s m args below meth c nL g X Q S cells slots lv (pc + 1) (.ref x :: st)) : V p l e R s m args below meth c nL g X Q S cells slots lv pc st := fun H locs ls hw0 hS0 hl => lv_aload_n F.1.1 F.1.2.1 d hi (h_loc hl h) (kk H locs ls hw0 hS0 hl)
theorem q_aload (F : hF p l s m args meth c cc nL Ts own g) {i : Nat} {x : Nat} (d : decode cc pc = .ok (.aload i, 2)) (h : hget lv i = some (.ref x))
    (kk : V p l e R s m args below meth c nL g X Q S cells slots lv (pc + 2) (.ref x :: st)) : V p l e R s m args below meth c nL g X Q S cells slots lv pc st := fun H locs ls hw0 hS0 hl => lv_aload F.1.1 F.1.2.1 d (h_loc hl h) (kk H locs ls hw0 hS0 hl)
theorem q_aload_nN (F : hF p l s m args meth c cc nL Ts own g) {k : Fin 4} (i : Nat) (d : decode cc pc = .ok (.aload_n k, 1)) (hi : (k : Nat) = i) (h : hget lv i = some .null)
    (kk : V p l e R s m args below meth c nL g X Q S cells slots lv (pc + 1) (.null :: st)) : V p l e R s m args below meth c nL g X Q S cells slots lv pc st := fun H locs ls hw0 hS0 hl => lv_aload_nN F.1.1 F.1.2.1 d hi (h_loc hl h) (kk H locs ls hw0 hS0 hl)
theorem q_aloadN (F : hF p l s m args meth c cc nL Ts own g) {i : Nat} (d : decode cc pc = .ok (.aload i, 2)) (h : hget lv i = some .null)
    (kk : V p l e R s m args below meth c nL g X Q S cells slots lv (pc + 2) (.null :: st)) : V p l e R s m args below meth c nL g X Q S cells slots lv pc st := fun H locs ls hw0 hS0 hl => lv_aloadN F.1.1 F.1.2.1 d (h_loc hl h) (kk H locs ls hw0 hS0 hl)
theorem q_istore_n (F : hF p l s m args meth c cc nL Ts own g) {k : Fin 4} (i : Nat) {x : Int32} (d : decode cc pc = .ok (.istore_n k, 1)) (hi : (k : Nat) = i) (hn : i < nL) (hfr : hfree1 i lv = true)
    (kk : V p l e R s m args below meth c nL g X Q S cells slots (hset lv i (.int x)) (pc + 1) st) : V p l e R s m args below meth c nL g X Q S cells slots lv pc (.int x :: st) := fun H locs ls hw0 hS0 hl => lv_istore_n F.1.1 F.1.2.1 d hi hl hn rfl (fun ls' hl' => kk H locs ls' hw0 hS0 (hset_has1 hfr hl'))
theorem q_istore (F : hF p l s m args meth c cc nL Ts own g) {i : Nat} {x : Int32} (d : decode cc pc = .ok (.istore i, 2)) (hn : i < nL) (hfr : hfree1 i lv = true)
    (kk : V p l e R s m args below meth c nL g X Q S cells slots (hset lv i (.int x)) (pc + 2) st) : V p l e R s m args below meth c nL g X Q S cells slots lv pc (.int x :: st) := fun H locs ls hw0 hS0 hl => lv_istore F.1.1 F.1.2.1 d hl hn rfl (fun ls' hl' => kk H locs ls' hw0 hS0 (hset_has1 hfr hl'))
theorem q_lstore_n (F : hF p l s m args meth c cc nL Ts own g) {k : Fin 4} (i : Nat) {x : Int64} (d : decode cc pc = .ok (.lstore_n k, 1)) (hi : (k : Nat) = i) (hn : i + 1 < nL) (hfr : hfree2 i lv = true)
    (kk : V p l e R s m args below meth c nL g X Q S cells slots (hset lv i (.long x)) (pc + 1) st) : V p l e R s m args below meth c nL g X Q S cells slots lv pc (.long x :: st) := fun H locs ls hw0 hS0 hl => lv_lstore_n F.1.1 F.1.2.1 d hi hl hn rfl (fun ls' hl' => kk H locs ls' hw0 hS0 (hset_has2 hfr hl'))
theorem q_lstore (F : hF p l s m args meth c cc nL Ts own g) {i : Nat} {x : Int64} (d : decode cc pc = .ok (.lstore i, 2)) (hn : i + 1 < nL) (hfr : hfree2 i lv = true)
    (kk : V p l e R s m args below meth c nL g X Q S cells slots (hset lv i (.long x)) (pc + 2) st) : V p l e R s m args below meth c nL g X Q S cells slots lv pc (.long x :: st) := fun H locs ls hw0 hS0 hl => lv_lstore F.1.1 F.1.2.1 d hl hn rfl (fun ls' hl' => kk H locs ls' hw0 hS0 (hset_has2 hfr hl'))
theorem q_astore_n (F : hF p l s m args meth c cc nL Ts own g) {k : Fin 4} (i : Nat) {x : Nat} (d : decode cc pc = .ok (.astore_n k, 1)) (hi : (k : Nat) = i) (hn : i < nL) (hfr : hfree1 i lv = true)
    (kk : V p l e R s m args below meth c nL g X Q S cells slots (hset lv i (.ref x)) (pc + 1) st) : V p l e R s m args below meth c nL g X Q S cells slots lv pc (.ref x :: st) := fun H locs ls hw0 hS0 hl => lv_astore_n F.1.1 F.1.2.1 d hi hl hn rfl (fun ls' hl' => kk H locs ls' hw0 hS0 (hset_has1 hfr hl'))
theorem q_astore (F : hF p l s m args meth c cc nL Ts own g) {i : Nat} {x : Nat} (d : decode cc pc = .ok (.astore i, 2)) (hn : i < nL) (hfr : hfree1 i lv = true)
    (kk : V p l e R s m args below meth c nL g X Q S cells slots (hset lv i (.ref x)) (pc + 2) st) : V p l e R s m args below meth c nL g X Q S cells slots lv pc (.ref x :: st) := fun H locs ls hw0 hS0 hl => lv_astore F.1.1 F.1.2.1 d hl hn rfl (fun ls' hl' => kk H locs ls' hw0 hS0 (hset_has1 hfr hl'))
theorem q_astore_nN (F : hF p l s m args meth c cc nL Ts own g) {k : Fin 4} (i : Nat)  (d : decode cc pc = .ok (.astore_n k, 1)) (hi : (k : Nat) = i) (hn : i < nL) (hfr : hfree1 i lv = true)
    (kk : V p l e R s m args below meth c nL g X Q S cells slots (hset lv i (.null)) (pc + 1) st) : V p l e R s m args below meth c nL g X Q S cells slots lv pc (.null :: st) := fun H locs ls hw0 hS0 hl => lv_astore_nN F.1.1 F.1.2.1 d hi hl hn rfl (fun ls' hl' => kk H locs ls' hw0 hS0 (hset_has1 hfr hl'))
theorem q_astoreN (F : hF p l s m args meth c cc nL Ts own g) {i : Nat}  (d : decode cc pc = .ok (.astore i, 2)) (hn : i < nL) (hfr : hfree1 i lv = true)
    (kk : V p l e R s m args below meth c nL g X Q S cells slots (hset lv i (.null)) (pc + 2) st) : V p l e R s m args below meth c nL g X Q S cells slots lv pc (.null :: st) := fun H locs ls hw0 hS0 hl => lv_astoreN F.1.1 F.1.2.1 d hl hn rfl (fun ls' hl' => kk H locs ls' hw0 hS0 (hset_has1 hfr hl'))
theorem q_iinc (F : hF p l s m args meth c cc nL Ts own g) {i : Nat} {n : Int} {x : Int32} (v : Int32) (d : decode cc pc = .ok (.iinc i n, 3)) (h : hget lv i = some (.int x)) (hv : x + Int32.ofInt n = v) (hn : i < nL) (hfr : hfree1 i lv = true)
    (kk : V p l e R s m args below meth c nL g X Q S cells slots (hset lv i (.int v)) (pc + 3) st) : V p l e R s m args below meth c nL g X Q S cells slots lv pc st := fun H locs ls hw0 hS0 hl => by
  obtain ⟨k, hk⟩ := List.getElem?_of_mem (hget_mem h)
  exact lv_iinc F.1.1 F.1.2.1 d hl hk hv hn rfl (fun ls' hl' => kk H locs ls' hw0 hS0 (hset_has1 hfr hl'))
theorem q_iadd (F : hF p l s m args meth c cc nL Ts own g) {x y : Int32} (d : decode cc pc = .ok (.iadd, 1))
    (kk : V p l e R s m args below meth c nL g X Q S cells slots lv (pc + 1) (.int (x + y) :: st)) : V p l e R s m args below meth c nL g X Q S cells slots lv pc (.int y :: .int x :: st) := fun H locs ls hw0 hS0 hl => lv_iadd F.1.1 F.1.2.1 d (kk H locs ls hw0 hS0 hl)
theorem q_isub (F : hF p l s m args meth c cc nL Ts own g) {x y : Int32} (d : decode cc pc = .ok (.isub, 1))
    (kk : V p l e R s m args below meth c nL g X Q S cells slots lv (pc + 1) (.int (x - y) :: st)) : V p l e R s m args below meth c nL g X Q S cells slots lv pc (.int y :: .int x :: st) := fun H locs ls hw0 hS0 hl => lv_isub F.1.1 F.1.2.1 d (kk H locs ls hw0 hS0 hl)
theorem q_imul (F : hF p l s m args meth c cc nL Ts own g) {x y : Int32} (d : decode cc pc = .ok (.imul, 1))
    (kk : V p l e R s m args below meth c nL g X Q S cells slots lv (pc + 1) (.int (x * y) :: st)) : V p l e R s m args below meth c nL g X Q S cells slots lv pc (.int y :: .int x :: st) := fun H locs ls hw0 hS0 hl => lv_imul F.1.1 F.1.2.1 d (kk H locs ls hw0 hS0 hl)
theorem q_iand (F : hF p l s m args meth c cc nL Ts own g) {x y : Int32} (d : decode cc pc = .ok (.iand, 1))
    (kk : V p l e R s m args below meth c nL g X Q S cells slots lv (pc + 1) (.int (x &&& y) :: st)) : V p l e R s m args below meth c nL g X Q S cells slots lv pc (.int y :: .int x :: st) := fun H locs ls hw0 hS0 hl => lv_iand F.1.1 F.1.2.1 d (kk H locs ls hw0 hS0 hl)
theorem q_idiv (F : hF p l s m args meth c cc nL Ts own g) {x y : Int32} (d : decode cc pc = .ok (.idiv, 1)) (hne : ¬ y = 0)
    (kk : V p l e R s m args below meth c nL g X Q S cells slots lv (pc + 1) (.int (x / y) :: st)) : V p l e R s m args below meth c nL g X Q S cells slots lv pc (.int y :: .int x :: st) := fun H locs ls hw0 hS0 hl => lv_idiv F.1.1 F.1.2.1 d hne (kk H locs ls hw0 hS0 hl)
theorem q_irem (F : hF p l s m args meth c cc nL Ts own g) {x y : Int32} (d : decode cc pc = .ok (.irem, 1)) (hne : ¬ y = 0)
    (kk : V p l e R s m args below meth c nL g X Q S cells slots lv (pc + 1) (.int (x % y) :: st)) : V p l e R s m args below meth c nL g X Q S cells slots lv pc (.int y :: .int x :: st) := fun H locs ls hw0 hS0 hl => lv_irem F.1.1 F.1.2.1 d hne (by rw [irem_eq_mod]; exact kk H locs ls hw0 hS0 hl)
theorem q_ishr (F : hF p l s m args meth c cc nL Ts own g) {x y : Int32} (d : decode cc pc = .ok (.ishr, 1))
    (kk : V p l e R s m args below meth c nL g X Q S cells slots lv (pc + 1) (.int (x >>> (y &&& 31)) :: st)) : V p l e R s m args below meth c nL g X Q S cells slots lv pc (.int y :: .int x :: st) := fun H locs ls hw0 hS0 hl => lv_ishr F.1.1 F.1.2.1 d (kk H locs ls hw0 hS0 hl)
theorem q_i2l (F : hF p l s m args meth c cc nL Ts own g) {x : Int32} (d : decode cc pc = .ok (.i2l, 1))
    (kk : V p l e R s m args below meth c nL g X Q S cells slots lv (pc + 1) (.long x.toInt64 :: st)) : V p l e R s m args below meth c nL g X Q S cells slots lv pc (.int x :: st) := fun H locs ls hw0 hS0 hl => lv_i2l F.1.1 F.1.2.1 d rfl (kk H locs ls hw0 hS0 hl)
theorem q_lshl (F : hF p l s m args meth c cc nL Ts own g) {x : Int64} {y : Int32} (d : decode cc pc = .ok (.lshl, 1))
    (kk : V p l e R s m args below meth c nL g X Q S cells slots lv (pc + 1) (.long (x <<< (y.toInt64 &&& 63)) :: st)) : V p l e R s m args below meth c nL g X Q S cells slots lv pc (.int y :: .long x :: st) := fun H locs ls hw0 hS0 hl => lv_lshl F.1.1 F.1.2.1 d rfl (kk H locs ls hw0 hS0 hl)
theorem q_lor (F : hF p l s m args meth c cc nL Ts own g) {x y : Int64} (d : decode cc pc = .ok (.lor, 1))
    (kk : V p l e R s m args below meth c nL g X Q S cells slots lv (pc + 1) (.long (x ||| y) :: st)) : V p l e R s m args below meth c nL g X Q S cells slots lv pc (.long y :: .long x :: st) := fun H locs ls hw0 hS0 hl => lv_lor F.1.1 F.1.2.1 d (kk H locs ls hw0 hS0 hl)
theorem q_dup (F : hF p l s m args meth c cc nL Ts own g) {v : Value} (d : decode cc pc = .ok (.dup, 1)) (hv : v.category = 1)
    (kk : V p l e R s m args below meth c nL g X Q S cells slots lv (pc + 1) (v :: v :: st)) : V p l e R s m args below meth c nL g X Q S cells slots lv pc (v :: st) := fun H locs ls hw0 hS0 hl => lv_dup F.1.1 F.1.2.1 d hv (kk H locs ls hw0 hS0 hl)
theorem q_pop (F : hF p l s m args meth c cc nL Ts own g) {v : Value} (d : decode cc pc = .ok (.pop, 1)) (hv : v.category = 1)
    (kk : V p l e R s m args below meth c nL g X Q S cells slots lv (pc + 1) st) : V p l e R s m args below meth c nL g X Q S cells slots lv pc (v :: st) := fun H locs ls hw0 hS0 hl => lv_pop F.1.1 F.1.2.1 d hv (kk H locs ls hw0 hS0 hl)
theorem q_dup2 (F : hF p l s m args meth c cc nL Ts own g) {v w : Value} (d : decode cc pc = .ok (.dup2, 1)) (hv : v.category = 1) (hw : w.category = 1)
    (kk : V p l e R s m args below meth c nL g X Q S cells slots lv (pc + 1) (v :: w :: v :: w :: st)) : V p l e R s m args below meth c nL g X Q S cells slots lv pc (v :: w :: st) := fun H locs ls hw0 hS0 hl => lv_dup2_11 F.1.1 F.1.2.1 d hv hw (kk H locs ls hw0 hS0 hl)
theorem q_goto (F : hF p l s m args meth c cc nL Ts own g) {off : Int} (tgt : Nat) (d : decode cc pc = .ok (.goto off, 3)) (ht : (pc : Int) + off = (tgt : Int))
    (kk : V p l e R s m args below meth c nL g X Q S cells slots lv tgt st) : V p l e R s m args below meth c nL g X Q S cells slots lv pc st := fun H locs ls hw0 hS0 hl => lv_goto F.1.1 F.1.2.1 d ht (kk H locs ls hw0 hS0 hl)
theorem q_null (F : hF p l s m args meth c cc nL Ts own g)  (d : decode cc pc = .ok (.aconst_null, 1))
    (kk : V p l e R s m args below meth c nL g X Q S cells slots lv (pc + 1) (.null :: st)) : V p l e R s m args below meth c nL g X Q S cells slots lv pc st := fun H locs ls hw0 hS0 hl => lv_null F.1.1 F.1.2.1 d (kk H locs ls hw0 hS0 hl)
theorem q_ifnull (F : hF p l s m args meth c cc nL Ts own g) {x : Nat} {off : Int} (d : decode cc pc = .ok (.ifnull off, 3))
    (kk : V p l e R s m args below meth c nL g X Q S cells slots lv (pc + 3) st) : V p l e R s m args below meth c nL g X Q S cells slots lv pc (.ref x :: st) := fun H locs ls hw0 hS0 hl => lv_ifnull F.1.1 F.1.2.1 d (kk H locs ls hw0 hS0 hl)
theorem q_ifnullN (F : hF p l s m args meth c cc nL Ts own g) {off : Int} (tgt : Nat) (d : decode cc pc = .ok (.ifnull off, 3)) (ht : (pc : Int) + off = (tgt : Int))
    (kk : V p l e R s m args below meth c nL g X Q S cells slots lv tgt st) : V p l e R s m args below meth c nL g X Q S cells slots lv pc (.null :: st) := fun H locs ls hw0 hS0 hl => lv_ifnullN F.1.1 F.1.2.1 d ht (kk H locs ls hw0 hS0 hl)
theorem q_ifnonnull (F : hF p l s m args meth c cc nL Ts own g) {x : Nat} {off : Int} (tgt : Nat) (d : decode cc pc = .ok (.ifnonnull off, 3)) (ht : (pc : Int) + off = (tgt : Int))
    (kk : V p l e R s m args below meth c nL g X Q S cells slots lv tgt st) : V p l e R s m args below meth c nL g X Q S cells slots lv pc (.ref x :: st) := fun H locs ls hw0 hS0 hl => lv_ifnonnull F.1.1 F.1.2.1 d ht (kk H locs ls hw0 hS0 hl)
theorem q_ifnonnullN (F : hF p l s m args meth c cc nL Ts own g) {off : Int} (d : decode cc pc = .ok (.ifnonnull off, 3))
    (kk : V p l e R s m args below meth c nL g X Q S cells slots lv (pc + 3) st) : V p l e R s m args below meth c nL g X Q S cells slots lv pc (.null :: st) := fun H locs ls hw0 hS0 hl => lv_ifnonnullN F.1.1 F.1.2.1 d (kk H locs ls hw0 hS0 hl)
theorem q_if_eq (F : hF p l s m args meth c cc nL Ts own g) {x : Int32} {off : Int} (tgt : Nat) (d : decode cc pc = .ok (.ifCond .eq off, 3)) (ht : (pc : Int) + off = (tgt : Int))
    (kt : x = 0 → V p l e R s m args below meth c nL g X Q S cells slots lv tgt st) (kf : ¬ x = 0 → V p l e R s m args below meth c nL g X Q S cells slots lv (pc + 3) st) : V p l e R s m args below meth c nL g X Q S cells slots lv pc (.int x :: st) := fun H locs ls hw0 hS0 hl => lv_if_eq F.1.1 F.1.2.1 d ht (fun h => kt h H locs ls hw0 hS0 hl) (fun h => kf h H locs ls hw0 hS0 hl)
theorem q_icmp_eq (F : hF p l s m args meth c cc nL Ts own g) {x y : Int32} {off : Int} (tgt : Nat) (d : decode cc pc = .ok (.if_icmp .eq off, 3)) (ht : (pc : Int) + off = (tgt : Int))
    (kt : x = y → V p l e R s m args below meth c nL g X Q S cells slots lv tgt st) (kf : ¬ x = y → V p l e R s m args below meth c nL g X Q S cells slots lv (pc + 3) st) : V p l e R s m args below meth c nL g X Q S cells slots lv pc (.int y :: .int x :: st) := fun H locs ls hw0 hS0 hl => lv_icmp_eq F.1.1 F.1.2.1 d ht (fun h => kt h H locs ls hw0 hS0 hl) (fun h => kf h H locs ls hw0 hS0 hl)
theorem q_if_ne (F : hF p l s m args meth c cc nL Ts own g) {x : Int32} {off : Int} (tgt : Nat) (d : decode cc pc = .ok (.ifCond .ne off, 3)) (ht : (pc : Int) + off = (tgt : Int))
    (kt : ¬ x = 0 → V p l e R s m args below meth c nL g X Q S cells slots lv tgt st) (kf : x = 0 → V p l e R s m args below meth c nL g X Q S cells slots lv (pc + 3) st) : V p l e R s m args below meth c nL g X Q S cells slots lv pc (.int x :: st) := fun H locs ls hw0 hS0 hl => lv_if_ne F.1.1 F.1.2.1 d ht (fun h => kt h H locs ls hw0 hS0 hl) (fun h => kf h H locs ls hw0 hS0 hl)
theorem q_icmp_ne (F : hF p l s m args meth c cc nL Ts own g) {x y : Int32} {off : Int} (tgt : Nat) (d : decode cc pc = .ok (.if_icmp .ne off, 3)) (ht : (pc : Int) + off = (tgt : Int))
    (kt : ¬ x = y → V p l e R s m args below meth c nL g X Q S cells slots lv tgt st) (kf : x = y → V p l e R s m args below meth c nL g X Q S cells slots lv (pc + 3) st) : V p l e R s m args below meth c nL g X Q S cells slots lv pc (.int y :: .int x :: st) := fun H locs ls hw0 hS0 hl => lv_icmp_ne F.1.1 F.1.2.1 d ht (fun h => kt h H locs ls hw0 hS0 hl) (fun h => kf h H locs ls hw0 hS0 hl)
theorem q_if_lt (F : hF p l s m args meth c cc nL Ts own g) {x : Int32} {off : Int} (tgt : Nat) (d : decode cc pc = .ok (.ifCond .lt off, 3)) (ht : (pc : Int) + off = (tgt : Int))
    (kt : x < 0 → V p l e R s m args below meth c nL g X Q S cells slots lv tgt st) (kf : ¬ x < 0 → V p l e R s m args below meth c nL g X Q S cells slots lv (pc + 3) st) : V p l e R s m args below meth c nL g X Q S cells slots lv pc (.int x :: st) := fun H locs ls hw0 hS0 hl => lv_if_lt F.1.1 F.1.2.1 d ht (fun h => kt h H locs ls hw0 hS0 hl) (fun h => kf h H locs ls hw0 hS0 hl)
theorem q_icmp_lt (F : hF p l s m args meth c cc nL Ts own g) {x y : Int32} {off : Int} (tgt : Nat) (d : decode cc pc = .ok (.if_icmp .lt off, 3)) (ht : (pc : Int) + off = (tgt : Int))
    (kt : x < y → V p l e R s m args below meth c nL g X Q S cells slots lv tgt st) (kf : ¬ x < y → V p l e R s m args below meth c nL g X Q S cells slots lv (pc + 3) st) : V p l e R s m args below meth c nL g X Q S cells slots lv pc (.int y :: .int x :: st) := fun H locs ls hw0 hS0 hl => lv_icmp_lt F.1.1 F.1.2.1 d ht (fun h => kt h H locs ls hw0 hS0 hl) (fun h => kf h H locs ls hw0 hS0 hl)
theorem q_if_ge (F : hF p l s m args meth c cc nL Ts own g) {x : Int32} {off : Int} (tgt : Nat) (d : decode cc pc = .ok (.ifCond .ge off, 3)) (ht : (pc : Int) + off = (tgt : Int))
    (kt : 0 ≤ x → V p l e R s m args below meth c nL g X Q S cells slots lv tgt st) (kf : ¬ 0 ≤ x → V p l e R s m args below meth c nL g X Q S cells slots lv (pc + 3) st) : V p l e R s m args below meth c nL g X Q S cells slots lv pc (.int x :: st) := fun H locs ls hw0 hS0 hl => lv_if_ge F.1.1 F.1.2.1 d ht (fun h => kt h H locs ls hw0 hS0 hl) (fun h => kf h H locs ls hw0 hS0 hl)
theorem q_icmp_ge (F : hF p l s m args meth c cc nL Ts own g) {x y : Int32} {off : Int} (tgt : Nat) (d : decode cc pc = .ok (.if_icmp .ge off, 3)) (ht : (pc : Int) + off = (tgt : Int))
    (kt : y ≤ x → V p l e R s m args below meth c nL g X Q S cells slots lv tgt st) (kf : ¬ y ≤ x → V p l e R s m args below meth c nL g X Q S cells slots lv (pc + 3) st) : V p l e R s m args below meth c nL g X Q S cells slots lv pc (.int y :: .int x :: st) := fun H locs ls hw0 hS0 hl => lv_icmp_ge F.1.1 F.1.2.1 d ht (fun h => kt h H locs ls hw0 hS0 hl) (fun h => kf h H locs ls hw0 hS0 hl)
theorem q_if_gt (F : hF p l s m args meth c cc nL Ts own g) {x : Int32} {off : Int} (tgt : Nat) (d : decode cc pc = .ok (.ifCond .gt off, 3)) (ht : (pc : Int) + off = (tgt : Int))
    (kt : 0 < x → V p l e R s m args below meth c nL g X Q S cells slots lv tgt st) (kf : ¬ 0 < x → V p l e R s m args below meth c nL g X Q S cells slots lv (pc + 3) st) : V p l e R s m args below meth c nL g X Q S cells slots lv pc (.int x :: st) := fun H locs ls hw0 hS0 hl => lv_if_gt F.1.1 F.1.2.1 d ht (fun h => kt h H locs ls hw0 hS0 hl) (fun h => kf h H locs ls hw0 hS0 hl)
theorem q_icmp_gt (F : hF p l s m args meth c cc nL Ts own g) {x y : Int32} {off : Int} (tgt : Nat) (d : decode cc pc = .ok (.if_icmp .gt off, 3)) (ht : (pc : Int) + off = (tgt : Int))
    (kt : y < x → V p l e R s m args below meth c nL g X Q S cells slots lv tgt st) (kf : ¬ y < x → V p l e R s m args below meth c nL g X Q S cells slots lv (pc + 3) st) : V p l e R s m args below meth c nL g X Q S cells slots lv pc (.int y :: .int x :: st) := fun H locs ls hw0 hS0 hl => lv_icmp_gt F.1.1 F.1.2.1 d ht (fun h => kt h H locs ls hw0 hS0 hl) (fun h => kf h H locs ls hw0 hS0 hl)
theorem q_if_le (F : hF p l s m args meth c cc nL Ts own g) {x : Int32} {off : Int} (tgt : Nat) (d : decode cc pc = .ok (.ifCond .le off, 3)) (ht : (pc : Int) + off = (tgt : Int))
    (kt : x ≤ 0 → V p l e R s m args below meth c nL g X Q S cells slots lv tgt st) (kf : ¬ x ≤ 0 → V p l e R s m args below meth c nL g X Q S cells slots lv (pc + 3) st) : V p l e R s m args below meth c nL g X Q S cells slots lv pc (.int x :: st) := fun H locs ls hw0 hS0 hl => lv_if_le F.1.1 F.1.2.1 d ht (fun h => kt h H locs ls hw0 hS0 hl) (fun h => kf h H locs ls hw0 hS0 hl)
theorem q_icmp_le (F : hF p l s m args meth c cc nL Ts own g) {x y : Int32} {off : Int} (tgt : Nat) (d : decode cc pc = .ok (.if_icmp .le off, 3)) (ht : (pc : Int) + off = (tgt : Int))
    (kt : x ≤ y → V p l e R s m args below meth c nL g X Q S cells slots lv tgt st) (kf : ¬ x ≤ y → V p l e R s m args below meth c nL g X Q S cells slots lv (pc + 3) st) : V p l e R s m args below meth c nL g X Q S cells slots lv pc (.int y :: .int x :: st) := fun H locs ls hw0 hS0 hl => lv_icmp_le F.1.1 F.1.2.1 d ht (fun h => kt h H locs ls hw0 hS0 hl) (fun h => kf h H locs ls hw0 hS0 hl)
theorem hc_m1 : Int32.ofInt (-1) = (-1 : Int32) := by decide
theorem hc_0 : Int32.ofInt 0 = (0 : Int32) := by decide
theorem hc_1 : Int32.ofInt 1 = (1 : Int32) := by decide
theorem hc_2 : Int32.ofInt 2 = (2 : Int32) := by decide
theorem hc_3 : Int32.ofInt 3 = (3 : Int32) := by decide
theorem hc_4 : Int32.ofInt 4 = (4 : Int32) := by decide
theorem hc_5 : Int32.ofInt 5 = (5 : Int32) := by decide
end HIns
end
section
/-! the heap's rows over the pool -/
theorem hE_ne {cy : Nat → ClassId} {S T : hS} {b : Nat} (h0 : sK T b = sK S b) (h1 : ∀ x, sF T x b = sF S x b) (h2 : ∀ x, sR T x b = sR S x b) (h3 : sN T b = sN S b) (h4 : sA T b = sA S b) (h5 : sB T b = sB S b) : hE cy T b = hE cy S b := by
  unfold hE
  rw [h0]
  exact hC_congr h1 h2 h3 h4 h5
theorem hE_uF {cy : Nat → ClassId} (S : hS) (k a : Nat) (v : Int32) {b : Nat} (h : b ≠ a) : hE cy (uF S k a v) b = hE cy S b :=
  hE_ne rfl (fun x => by rw [sF_uF, if_neg (fun z => h z.2)]) (fun _ => rfl) rfl rfl rfl
theorem hE_uR {cy : Nat → ClassId} (S : hS) (k a : Nat) (v : Option Nat) {b : Nat} (h : b ≠ a) : hE cy (uR S k a v) b = hE cy S b :=
  hE_ne rfl (fun _ => rfl) (fun x => by rw [sR_uR, if_neg (fun z => h z.2)]) rfl rfl rfl
theorem hE_uA {cy : Nat → ClassId} (S : hS) (a j : Nat) (v : Int32) {b : Nat} (h : b ≠ a) : hE cy (uA S a j v) b = hE cy S b :=
  hE_ne rfl (fun _ => rfl) (fun _ => rfl) rfl (u2_off _ _ _ h) rfl
theorem hE_uB {cy : Nat → ClassId} (S : hS) (a j : Nat) (v : Option Nat) {b : Nat} (h : b ≠ a) : hE cy (uB S a j v) b = hE cy S b :=
  hE_ne rfl (fun _ => rfl) (fun _ => rfl) rfl rfl (u2_off _ _ _ h)
theorem hE_nO {cy : Nat → ClassId} (S : hS) (k q : Nat) {b : Nat} (h : b ≠ q) : hE cy (nO S k q) b = hE cy S b :=
  hE_ne (by rw [sK_nO, if_neg h]) (fun x => by rw [sF_nO, if_neg h]) (fun x => by rw [sR_nO, if_neg h]) rfl rfl rfl
theorem hE_nA {cy : Nat → ClassId} (S : hS) (k q n : Nat) {b : Nat} (h : b ≠ q) : hE cy (nA S k q n) b = hE cy S b :=
  hE_ne (by rw [sK_nA, if_neg h]) (fun _ => rfl) (fun _ => rfl) (by rw [sN_nA, if_neg h]) (va_up_ne _ _ h) (va_up_ne _ _ h)
theorem hE_k {cy : Nat → ClassId} {S : hS} {a k : Nat} (h : sK S a = k) : hE cy S a = hC cy S k a := by unfold hE; rw [h]
/-- a truth value -/
def isB (x : Int32) : Prop := x = 0 ∨ x = 1
theorem isB_nar {x : Int32} (h : isB x) : narrow .boolean (.int x) = .int x := by rcases h with rfl | rfl <;> rfl
theorem isB_fits {x : Int32} (h : isB x) : fits .boolean (.int x) = true := by rcases h with rfl | rfl <;> rfl
theorem isB_vp {x : Int32} (h : isB x) : vp_nar .boolean x = x := by rcases h with rfl | rfl <;> rfl
section HHeap
variable {p : Program} {l : Launch} {e : Env} {R : Room} {s : State} {m : MethodId} {args : Array Value} {below : List Frame} {meth : Method} {c : Code} {nL : Nat} {g : hG} {X : va_W} {Q : State → Prop} {S : hS} {cells slots : Nat} {lv : List (Nat × Value)} {pc : Nat} {st rest : List Value} {cc : ByteArray} {Ts : List Cond} {own : String}
variable {a ci N index k : Nat} {C : String} {T : u_T} {fs : List Value} {v : Value}
theorem h_lays {H : Heap} (hk0 : hk g s H) : ∀ w ∈ wsL_law, w.before args s = true := fun w hw => hk_word hk0 hw args
theorem q_getG (F : hF p l s m args meth c cc nL Ts own g) (hc : vwCl[ci]? = some (C, T, N)) (hin : ∀ w ∈ u_ws C T N, w ∈ wsL_law) (hkN : k < N) (hlink : Cond.fieldLink own index (T k).1 (T k).2.1 (T k).2.2.1 ∈ wsL_law) (hE0 : hC g.2.1 S ci a = .inr (ci, fs)) (hv : fs[k]? = some v) (ho : isO S a ci) (d : decode cc pc = .ok (.getfield index, 3))
    (kk : V p l e R s m args below meth c nL g X Q S cells slots lv (pc + 3) (v :: st)) : V p l e R s m args below meth c nL g X Q S cells slots lv pc (.ref a :: st) := by
  intro H locs ls hw0 hS0 hl
  obtain ⟨i, -, hi⟩ := hw_get (g := g) (X := X) ho
  rw [hE0] at hi
  exact va_get F.1.1 F.1.2.1 (h_lays F.2.1) hin F.1.2.2.2.1 F.2.1.1 hw0.1 i hi hc k hkN (hk_word F.2.1 hlink args) (fun _ h => h) hv d (kk H locs ls hw0 hS0 hl)
theorem q_getNG (F : hF p l s m args meth c cc nL Ts own g) (hc : vwCl[ci]? = some (C, T, N)) (hin : ∀ w ∈ u_ws C T N, w ∈ wsL_law) (hkN : k < N) (hlink : (own, index, (T k).1, (T k).2.1, (T k).2.2.1) ∈ hNF) (hE0 : hC g.2.1 S ci a = .inr (ci, fs)) (hv : fs[k]? = some v) (ho : isO S a ci) (d : decode cc pc = .ok (.getfield index, 3))
    (kk : V p l e R s m args below meth c nL g X Q S cells slots lv (pc + 3) (v :: st)) : V p l e R s m args below meth c nL g X Q S cells slots lv pc (.ref a :: st) := by
  intro H locs ls hw0 hS0 hl
  obtain ⟨i, -, hi⟩ := hw_get (g := g) (X := X) ho
  rw [hE0] at hi
  exact va_getN F.1.1 F.1.2.1 (h_lays F.2.1) hin F.1.2.2.2.1 F.2.1.1 hw0.1 i hi hc k hkN (va_Nw.use rfl (F.2.1.2.2.2.2.1 _ hlink)) (fun _ h => h) hv d (kk H locs ls hw0 hS0 hl)
theorem q_putG {S1 : hS} {ty0 : Nat → FieldType} {ty : FieldType} (F : hF p l s m args meth c cc nL Ts own g) (hc : vwCl[ci]? = some (C, T, N)) (hin : ∀ w ∈ u_ws C T N, w ∈ wsL_law) (hty : ∀ k, k < N → parseFieldDescriptor (T k).2.2.1 = some (ty0 k)) (hnm : ∀ a, a < N → ∀ b, b < N → a ≠ b → (T a).2.1 ≠ (T b).2.1) (hkN : k < N) (hlink : Cond.fieldLink own index (T k).1 (T k).2.1 (T k).2.2.1 ∈ wsL_law) (hfin : (T k).2.2.2 = false) (hd : parseFieldDescriptor (T k).2.2.1 = some ty) (hn : narrow ty v = v) (hft : fits ty v = true)
    (hE0 : hC g.2.1 S ci a = .inr (ci, fs)) (hlen : k < fs.length) (hE1 : hE g.2.1 S1 a = .inr (ci, fs.set k v)) (hne : ∀ b, b ≠ a → hE g.2.1 S1 b = hE g.2.1 S b) (hL : sL S1 = sL S) (ho : isO S a ci) (d : decode cc pc = .ok (.putfield index, 3))
    (kk : V p l e R s m args below meth c nL g X Q S1 cells slots lv (pc + 3) st) : V p l e R s m args below meth c nL g X Q S cells slots lv pc (v :: .ref a :: st) := by
  intro H locs ls hw0 hS0 hl
  obtain ⟨i, hi0, hi⟩ := hw_get (g := g) (X := X) ho
  rw [hE0] at hi
  have hset := hw_set (g := g) (X := X) (T := S1) hw0.2 ho.1 hi0 hL hE1 hne
  refine va_put F.1.1 F.1.2.1 (h_lays F.2.1) hin ty0 hty hnm F.1.2.2.2.1 F.2.1.1 hw0.1 hw0.2 hS0 i hi hc k hkN (hk_word F.2.1 hlink args) (fun _ h => h) hfin hd hn hft hlen d (fun H1 locs1 hP1 hD1 hS1 => ?_)
  rw [hset] at hP1 hD1
  exact kk H1 locs1 ls ⟨hP1, hD1⟩ hS1 hl
theorem q_putNG {S1 : hS} {ty0 : Nat → FieldType} {ty : FieldType} (F : hF p l s m args meth c cc nL Ts own g) (hc : vwCl[ci]? = some (C, T, N)) (hin : ∀ w ∈ u_ws C T N, w ∈ wsL_law) (hty : ∀ k, k < N → parseFieldDescriptor (T k).2.2.1 = some (ty0 k)) (hnm : ∀ a, a < N → ∀ b, b < N → a ≠ b → (T a).2.1 ≠ (T b).2.1) (hkN : k < N) (hlink : (own, index, (T k).1, (T k).2.1, (T k).2.2.1) ∈ hNF) (hfin : (T k).2.2.2 = false) (hd : parseFieldDescriptor (T k).2.2.1 = some ty) (hn : narrow ty v = v) (hft : fits ty v = true)
    (hE0 : hC g.2.1 S ci a = .inr (ci, fs)) (hlen : k < fs.length) (hE1 : hE g.2.1 S1 a = .inr (ci, fs.set k v)) (hne : ∀ b, b ≠ a → hE g.2.1 S1 b = hE g.2.1 S b) (hL : sL S1 = sL S) (ho : isO S a ci) (d : decode cc pc = .ok (.putfield index, 3))
    (kk : V p l e R s m args below meth c nL g X Q S1 cells slots lv (pc + 3) st) : V p l e R s m args below meth c nL g X Q S cells slots lv pc (v :: .ref a :: st) := by
  intro H locs ls hw0 hS0 hl
  obtain ⟨i, hi0, hi⟩ := hw_get (g := g) (X := X) ho
  rw [hE0] at hi
  have hset := hw_set (g := g) (X := X) (T := S1) hw0.2 ho.1 hi0 hL hE1 hne
  refine va_putN F.1.1 F.1.2.1 (h_lays F.2.1) hin ty0 hty hnm F.1.2.2.2.1 F.2.1.1 hw0.1 hw0.2 hS0 i hi hc k hkN (va_Nw.use rfl (F.2.1.2.2.2.2.1 _ hlink)) (fun _ h => h) hfin hd hn hft hlen d (fun H1 locs1 hP1 hD1 hS1 => ?_)
  rw [hset] at hP1 hD1
  exact kk H1 locs1 ls ⟨hP1, hD1⟩ hS1 hl
theorem q_putFG {S1 : hS} {ty0 : Nat → FieldType} {ty : FieldType} (F : hF p l s m args meth c cc nL Ts own g) (hc : vwCl[ci]? = some (C, T, N)) (hin : ∀ w ∈ u_ws C T N, w ∈ wsL_law) (hty : ∀ k, k < N → parseFieldDescriptor (T k).2.2.1 = some (ty0 k)) (hnm : ∀ a, a < N → ∀ b, b < N → a ≠ b → (T a).2.1 ≠ (T b).2.1) (hkN : k < N) (hlink : Cond.fieldLink own index (T k).1 (T k).2.1 (T k).2.2.1 ∈ wsL_law) (hfin : (T k).2.2.2 = true) (hin2 : meth.name = "<init>") (hdecl : (T k).1 = own) (hd : parseFieldDescriptor (T k).2.2.1 = some ty) (hn : narrow ty v = v) (hft : fits ty v = true)
    (hE0 : hC g.2.1 S ci a = .inr (ci, fs)) (hlen : k < fs.length) (hE1 : hE g.2.1 S1 a = .inr (ci, fs.set k v)) (hne : ∀ b, b ≠ a → hE g.2.1 S1 b = hE g.2.1 S b) (hL : sL S1 = sL S) (ho : isO S a ci) (d : decode cc pc = .ok (.putfield index, 3))
    (kk : V p l e R s m args below meth c nL g X Q S1 cells slots lv (pc + 3) st) : V p l e R s m args below meth c nL g X Q S cells slots lv pc (v :: .ref a :: st) := by
  intro H locs ls hw0 hS0 hl
  obtain ⟨i, hi0, hi⟩ := hw_get (g := g) (X := X) ho
  rw [hE0] at hi
  have hset := hw_set (g := g) (X := X) (T := S1) hw0.2 ho.1 hi0 hL hE1 hne
  refine va_putF F.1.1 F.1.2.1 (h_lays F.2.1) hin ty0 hty hnm F.1.2.2.2.1 F.2.1.1 hw0.1 hw0.2 hS0 i hi hc k hkN (hk_word F.2.1 hlink args) (fun _ h => h) hfin hin2 hdecl hd hn hft hlen d (fun H1 locs1 hP1 hD1 hS1 => ?_)
  rw [hset] at hP1 hD1
  exact kk H1 locs1 ls ⟨hP1, hD1⟩ hS1 hl
theorem q_newG {ty : Nat → FieldType} (F : hF p l s m args meth c cc nL Ts own g) (hc : vwCl[ci]? = some (C, T, N)) (hin : ∀ w ∈ u_ws C T N, w ∈ wsL_law) (hty : ∀ k, k < N → parseFieldDescriptor (T k).2.2.1 = some (ty k)) (hcl : Cond.classLink own index C ∈ wsL_law) (hinst : Cond.instantiable C N ∈ wsL_law) (hini : Cond.initialized C ∈ wsL_law) (hfs : ∀ j, j < N → defaultValue (ty j) = vp_V fs j) (hE1 : ∀ q, hE g.2.1 (nO S ci q) q = .inr (ci, fs)) (hf : cells + 1 ≤ R.cells ∧ slots + N ≤ R.slots) (d : decode cc pc = .ok (.new index, 3))
    (kk : ∀ q : Nat, q ∉ sL S → V p l e R s m args below meth c nL g X Q (nO S ci q) (cells + 1) (slots + N) lv (pc + 3) (.ref q :: st)) : V p l e R s m args below meth c nL g X Q S cells slots lv pc st := by
  intro H locs ls hw0 hS0 hl
  refine va_new F.1.1 F.1.2.1 (h_lays F.2.1) hin ty hty F.1.2.2.2.1 (hk_word F.2.1 hcl args) (hk_word F.2.1 hinst args) (hk_word F.2.1 hini args) F.2.1.1 hw0.1 hw0.2 hS0 (hA_new F.2.2.2) hc hfs hf.1 hf.2 d (fun q H1 hP1 hD1 hS1 => ?_)
  obtain ⟨h1, h2⟩ := hw_new (T := nO S ci q) hD1 rfl (hE1 q) (fun b hb => hE_nO S ci q hb)
  rw [h1] at hP1 hD1
  exact kk q h2 H1 locs ls ⟨hP1, hD1⟩ hS1 hl
theorem h_cy {cy : Nat → ClassId} {D : va_G} {k : Nat} {ty : FieldType} {cA : ClassId} (hK : va_K D vwCl (hTY cy) s) (hk : (hTY cy)[k]? = some (cy k, ty)) (hK2 : va_K D vwCl (hTY cy ++ [(cA, ty)]) s) : cA = cy k := by
  have h1 := (hK.2 k _ hk).2
  have h2 := (hK2.2 7 (cA, ty) rfl).2
  cases ty with
  | object C =>
    obtain ⟨_, _, _, _, _, e1⟩ := h1
    obtain ⟨_, _, _, _, _, e2⟩ := h2
    exact Option.some.inj (e2.symm.trans e1)
  | _ => exact Option.some.inj (Eq.trans (Eq.symm h2) h1)
theorem q_anewG {kd t0 : Nat} (F : hF p l s m args meth c cc nL Ts own g) {n : Int32} {N' : Nat} (hcl : Cond.classLink own index C ∈ wsL_law) (hAO : C ∈ [RX0, RX1, RX2, RX3]) (ht : (hTY g.2.1)[t0]? = some (g.2.1 t0, .object C)) (hn : ¬ n < 0) (hN : n.toNatClampNeg = N') (hb : N' * 4 ≤ 536870912) (hE1 : ∀ q, hE g.2.1 (nA S kd q N') q = .inl (g.2.1 t0, N', .inr (.inr (.inr (.inr (fun _ => none)))))) (hf : cells + 1 ≤ R.cells ∧ slots + N' ≤ R.slots) (d : decode cc pc = .ok (.anewarray index, 3))
    (kk : ∀ q : Nat, q ∉ sL S → V p l e R s m args below meth c nL g X Q (nA S kd q N') (cells + 1) (slots + N') lv (pc + 3) (.ref q :: st)) : V p l e R s m args below meth c nL g X Q S cells slots lv pc (.int n :: st) := by
  intro H locs ls hw0 hS0 hl
  refine va_newq F.1.1 F.1.2.1 F.1.2.2.2.1 (hk_word F.2.1 hcl args) (F.2.1.2.2.2.2.2.2.1 C hAO) F.2.1.1 hw0.1 hw0.2 hS0 (hA_new F.2.2.2) hn hN hb hf.1 hf.2 d (fun q cA H1 hK1 hP1 hD1 hS1 => ?_)
  have hcA : cA = g.2.1 t0 := h_cy F.2.1.1 ht hK1
  subst hcA
  obtain ⟨h1, h2⟩ := hw_new (T := nA S kd q N') hD1 rfl (hE1 q) (fun b hb => hE_nA S kd q N' hb)
  rw [h1] at hP1 hD1
  exact kk q h2 H1 locs ls ⟨hP1, hD1⟩ hS1 hl
theorem q_newaG {kd t0 : Nat} {atype : ArrayType} {ty : FieldType} (F : hF p l s m args meth c cc nL Ts own g) {n : Int32} {N' : Nat} (harr : Cond.arrayClass (newarray.typeOf atype) ∈ wsL_law) (hty : newarray.typeOf atype = ty) (ht : (hTY g.2.1)[t0]? = some (g.2.1 t0, ty)) (ha : ∀ cA : ClassId, vp_cell cA (N', .inl (fun _ => 0)) = arrV cA N' (fun _ => defaultValue ty)) (hn : ¬ n < 0) (hN : n.toNatClampNeg = N') (hb : N' * componentBytes ty ≤ 536870912) (hE1 : ∀ q, hE g.2.1 (nA S kd q N') q = .inl (g.2.1 t0, N', .inl (fun _ => 0))) (hf : cells + 1 ≤ R.cells ∧ slots + N' ≤ R.slots) (d : decode cc pc = .ok (.newarray atype, 2))
    (kk : ∀ q : Nat, q ∉ sL S → V p l e R s m args below meth c nL g X Q (nA S kd q N') (cells + 1) (slots + N') lv (pc + 2) (.ref q :: st)) : V p l e R s m args below meth c nL g X Q S cells slots lv pc (.int n :: st) := by
  intro H locs ls hw0 hS0 hl
  refine va_newa F.1.1 F.1.2.1 (hk_word F.2.1 harr args) hty F.2.1.1 hw0.1 hw0.2 hS0 (hA_new F.2.2.2) ha hn hN hb hf.1 hf.2 d (fun q cA H1 hK1 hP1 hD1 hS1 => ?_)
  have hcA : cA = g.2.1 t0 := h_cy F.2.1.1 ht hK1
  subst hcA
  obtain ⟨h1, h2⟩ := hw_new (T := nA S kd q N') hD1 rfl (hE1 q) (fun b hb => hE_nA S kd q N' hb)
  rw [h1] at hP1 hD1
  exact kk q h2 H1 locs ls ⟨hP1, hD1⟩ hS1 hl
theorem h_idx {i : Int32} {j N : Nat} (hij : i = nI j) (hj : j < N) (hb : N < 2 ^ 31) : vp_in i N ∧ i.toNatClampNeg = j := by
  subst hij
  exact ⟨vp_in_nI hj hb, nI_clamp (by omega)⟩
theorem q_iald (F : hF p l s m args meth c cc nL Ts own g) {i : Int32} {j N : Nat} (ho : isO S a 6) (hN : sN S a = N) (hij : i = nI j) (hj : j < N) (hb : N < 2 ^ 31) (d : decode cc pc = .ok (.iaload, 1))
    (kk : V p l e R s m args below meth c nL g X Q S cells slots lv (pc + 1) (.int (sA S a j) :: st)) : V p l e R s m args below meth c nL g X Q S cells slots lv pc (.int i :: .ref a :: st) := by
  intro H locs ls hw0 hS0 hl
  subst hN
  obtain ⟨i0, -, hi⟩ := hw_get (g := g) (X := X) ho
  obtain ⟨h1, h2⟩ := h_idx hij hj hb
  refine va_iald F.1.1 F.1.2.1 F.2.1.1 hw0.1 i0 0 hi rfl h1 d ?_
  rw [h2]
  exact kk H locs ls hw0 hS0 hl
theorem q_zald (F : hF p l s m args meth c cc nL Ts own g) {i : Int32} {j N : Nat} (ho : isO S a 7) (hN : sN S a = N) (hij : i = nI j) (hj : j < N) (hb : N < 2 ^ 31) (d : decode cc pc = .ok (.baload, 1))
    (kk : V p l e R s m args below meth c nL g X Q S cells slots lv (pc + 1) (.int (sA S a j) :: st)) : V p l e R s m args below meth c nL g X Q S cells slots lv pc (.int i :: .ref a :: st) := by
  intro H locs ls hw0 hS0 hl
  subst hN
  obtain ⟨i0, -, hi⟩ := hw_get (g := g) (X := X) ho
  obtain ⟨h1, h2⟩ := h_idx hij hj hb
  refine va_zald F.1.1 F.1.2.1 F.2.1.1 hw0.1 i0 1 hi rfl h1 d ?_
  rw [h2]
  exact kk H locs ls hw0 hS0 hl
theorem hE_uA_self {cy : Nat → ClassId} {n t : Nat} {x : Int32} {j : Nat} (hk : sK S a = t) (h : ∀ T : hS, hC cy T t a = .inl (cy n, sN T a, .inl (sA T a))) : hE cy (uA S a j x) a = .inl (cy n, sN S a, .inl (upd (sA S a) j x)) := by
  rw [hE_k (show sK (uA S a j x) a = t from hk), h]
  show (Sum.inl (cy n, sN S a, Sum.inl (u2 (sA S) a j x a)) : va_E) = _
  rw [u2_row]
  rfl
theorem q_iast (F : hF p l s m args meth c cc nL Ts own g) {i x : Int32} {j N : Nat} (ho : isO S a 6) (hN : sN S a = N) (hij : i = nI j) (hj : j < N) (hb : N < 2 ^ 31) (d : decode cc pc = .ok (.iastore, 1))
    (kk : V p l e R s m args below meth c nL g X Q (uA S a j x) cells slots lv (pc + 1) st) : V p l e R s m args below meth c nL g X Q S cells slots lv pc (.int x :: .int i :: .ref a :: st) := by
  intro H locs ls hw0 hS0 hl
  subst hN
  obtain ⟨i0, hi0, hi⟩ := hw_get (g := g) (X := X) ho
  obtain ⟨h1, h2⟩ := h_idx hij hj hb
  have hset := hw_set (g := g) (X := X) (T := uA S a j x) hw0.2 ho.1 hi0 rfl (hE_uA_self (n := 0) ho.2 (fun _ => rfl)) (fun b hb => hE_uA S a j x hb)
  refine va_iast F.1.1 F.1.2.1 F.2.1.1 hw0.1 hw0.2 hS0 i0 0 hi rfl h1 d (fun H1 locs1 hP1 hD1 hS1 => ?_)
  rw [h2] at hP1 hD1
  rw [hset] at hP1 hD1
  exact kk H1 locs1 ls ⟨hP1, hD1⟩ hS1 hl
theorem q_zast (F : hF p l s m args meth c cc nL Ts own g) {i x : Int32} {j N : Nat} (hx : isB x) (ho : isO S a 7) (hN : sN S a = N) (hij : i = nI j) (hj : j < N) (hb : N < 2 ^ 31) (d : decode cc pc = .ok (.bastore, 1))
    (kk : V p l e R s m args below meth c nL g X Q (uA S a j x) cells slots lv (pc + 1) st) : V p l e R s m args below meth c nL g X Q S cells slots lv pc (.int x :: .int i :: .ref a :: st) := by
  intro H locs ls hw0 hS0 hl
  subst hN
  obtain ⟨i0, hi0, hi⟩ := hw_get (g := g) (X := X) ho
  obtain ⟨h1, h2⟩ := h_idx hij hj hb
  have hset := hw_set (g := g) (X := X) (T := uA S a j x) hw0.2 ho.1 hi0 rfl (hE_uA_self (n := 1) ho.2 (fun _ => rfl)) (fun b hb => hE_uA S a j x hb)
  refine va_zast F.1.1 F.1.2.1 F.2.1.1 hw0.1 hw0.2 hS0 i0 1 hi rfl h1 d (fun H1 locs1 hP1 hD1 hS1 => ?_)
  rw [h2, isB_vp hx] at hP1 hD1
  rw [hset] at hP1 hD1
  exact kk H1 locs1 ls ⟨hP1, hD1⟩ hS1 hl
theorem q_aald_c (F : hF p l s m args meth c cc nL Ts own g) {i : Int32} {j N b : Nat} (ho : isO S a 8) (hN : sN S a = N) (hij : i = nI j) (hj : j < N) (hb : N < 2 ^ 31) (hr : sB S a j = some b) (d : decode cc pc = .ok (.aaload, 1))
    (kk : V p l e R s m args below meth c nL g X Q S cells slots lv (pc + 1) (.ref b :: st)) : V p l e R s m args below meth c nL g X Q S cells slots lv pc (.int i :: .ref a :: st) := by
  intro H locs ls hw0 hS0 hl
  subst hN
  obtain ⟨i0, -, hi⟩ := hw_get (g := g) (X := X) ho
  obtain ⟨h1, h2⟩ := h_idx hij hj hb
  refine va_aldq F.1.1 F.1.2.1 F.2.1.1 hw0.1 i0 2 hi rfl h1 d ?_
  rw [h2, hr]
  exact kk H locs ls hw0 hS0 hl
theorem q_aast_c (F : hF p l s m args meth c cc nL Ts own g) {i : Int32} {j N v : Nat} (ho : isO S a 8) (hN : sN S a = N) (hij : i = nI j) (hj : j < N) (hb : N < 2 ^ 31) (hv : isO S v 0) (d : decode cc pc = .ok (.aastore, 1))
    (kk : V p l e R s m args below meth c nL g X Q (uB S a j (some v)) cells slots lv (pc + 1) st) : V p l e R s m args below meth c nL g X Q S cells slots lv pc (.ref v :: .int i :: .ref a :: st) := by
  intro H locs ls hw0 hS0 hl
  subst hN
  obtain ⟨i0, hi0, hi⟩ := hw_get (g := g) (X := X) ho
  obtain ⟨i1, -, hv1⟩ := hw_get (g := g) (X := X) hv
  obtain ⟨h1, h2⟩ := h_idx hij hj hb
  have he : hE g.2.1 (uB S a j (some v)) a = .inl (g.2.1 2, sN S a, .inr (.inr (.inr (.inr (va_up (sB S a) j (some v)))))) := by
    rw [hE_k (show sK (uB S a j (some v)) a = 8 from ho.2)]
    show (Sum.inl (g.2.1 2, sN S a, Sum.inr (Sum.inr (Sum.inr (Sum.inr (u2 (sB S) a j (some v) a))))) : va_E) = _
    rw [u2_row]
  have hset := hw_set (g := g) (X := X) (T := uB S a j (some v)) hw0.2 ho.1 hi0 rfl he (fun b hb => hE_uB S a j (some v) hb)
  refine va_astq (ci := 0) (r := (RX0, TX0, 7)) F.1.1 F.1.2.1 F.2.1.1 hw0.1 hw0.2 hS0 i0 2 i1 hi rfl hv1 rfl h1 d (fun H1 locs1 hP1 hD1 hS1 => ?_)
  rw [h2] at hP1 hD1
  rw [hset] at hP1 hD1
  exact kk H1 locs1 ls ⟨hP1, hD1⟩ hS1 hl
theorem q_aald_l (F : hF p l s m args meth c cc nL Ts own g) {i : Int32} {j N b : Nat} (ho : isO S a 9) (hN : sN S a = N) (hij : i = nI j) (hj : j < N) (hb : N < 2 ^ 31) (hr : sB S a j = some b) (d : decode cc pc = .ok (.aaload, 1))
    (kk : V p l e R s m args below meth c nL g X Q S cells slots lv (pc + 1) (.ref b :: st)) : V p l e R s m args below meth c nL g X Q S cells slots lv pc (.int i :: .ref a :: st) := by
  intro H locs ls hw0 hS0 hl
  subst hN
  obtain ⟨i0, -, hi⟩ := hw_get (g := g) (X := X) ho
  obtain ⟨h1, h2⟩ := h_idx hij hj hb
  refine va_aldq F.1.1 F.1.2.1 F.2.1.1 hw0.1 i0 3 hi rfl h1 d ?_
  rw [h2, hr]
  exact kk H locs ls hw0 hS0 hl
theorem q_aast_l (F : hF p l s m args meth c cc nL Ts own g) {i : Int32} {j N v : Nat} (ho : isO S a 9) (hN : sN S a = N) (hij : i = nI j) (hj : j < N) (hb : N < 2 ^ 31) (hv : isO S v 1) (d : decode cc pc = .ok (.aastore, 1))
    (kk : V p l e R s m args below meth c nL g X Q (uB S a j (some v)) cells slots lv (pc + 1) st) : V p l e R s m args below meth c nL g X Q S cells slots lv pc (.ref v :: .int i :: .ref a :: st) := by
  intro H locs ls hw0 hS0 hl
  subst hN
  obtain ⟨i0, hi0, hi⟩ := hw_get (g := g) (X := X) ho
  obtain ⟨i1, -, hv1⟩ := hw_get (g := g) (X := X) hv
  obtain ⟨h1, h2⟩ := h_idx hij hj hb
  have he : hE g.2.1 (uB S a j (some v)) a = .inl (g.2.1 3, sN S a, .inr (.inr (.inr (.inr (va_up (sB S a) j (some v)))))) := by
    rw [hE_k (show sK (uB S a j (some v)) a = 9 from ho.2)]
    show (Sum.inl (g.2.1 3, sN S a, Sum.inr (Sum.inr (Sum.inr (Sum.inr (u2 (sB S) a j (some v) a))))) : va_E) = _
    rw [u2_row]
  have hset := hw_set (g := g) (X := X) (T := uB S a j (some v)) hw0.2 ho.1 hi0 rfl he (fun b hb => hE_uB S a j (some v) hb)
  refine va_astq (ci := 1) (r := (RX1, TX1, 10)) F.1.1 F.1.2.1 F.2.1.1 hw0.1 hw0.2 hS0 i0 3 i1 hi rfl hv1 rfl h1 d (fun H1 locs1 hP1 hD1 hS1 => ?_)
  rw [h2] at hP1 hD1
  rw [hset] at hP1 hD1
  exact kk H1 locs1 ls ⟨hP1, hD1⟩ hS1 hl
theorem q_aald_p (F : hF p l s m args meth c cc nL Ts own g) {i : Int32} {j N b : Nat} (ho : isO S a 10) (hN : sN S a = N) (hij : i = nI j) (hj : j < N) (hb : N < 2 ^ 31) (hr : sB S a j = some b) (d : decode cc pc = .ok (.aaload, 1))
    (kk : V p l e R s m args below meth c nL g X Q S cells slots lv (pc + 1) (.ref b :: st)) : V p l e R s m args below meth c nL g X Q S cells slots lv pc (.int i :: .ref a :: st) := by
  intro H locs ls hw0 hS0 hl
  subst hN
  obtain ⟨i0, -, hi⟩ := hw_get (g := g) (X := X) ho
  obtain ⟨h1, h2⟩ := h_idx hij hj hb
  refine va_aldq F.1.1 F.1.2.1 F.2.1.1 hw0.1 i0 4 hi rfl h1 d ?_
  rw [h2, hr]
  exact kk H locs ls hw0 hS0 hl
theorem q_aast_p (F : hF p l s m args meth c cc nL Ts own g) {i : Int32} {j N v : Nat} (ho : isO S a 10) (hN : sN S a = N) (hij : i = nI j) (hj : j < N) (hb : N < 2 ^ 31) (hv : isO S v 2) (d : decode cc pc = .ok (.aastore, 1))
    (kk : V p l e R s m args below meth c nL g X Q (uB S a j (some v)) cells slots lv (pc + 1) st) : V p l e R s m args below meth c nL g X Q S cells slots lv pc (.ref v :: .int i :: .ref a :: st) := by
  intro H locs ls hw0 hS0 hl
  subst hN
  obtain ⟨i0, hi0, hi⟩ := hw_get (g := g) (X := X) ho
  obtain ⟨i1, -, hv1⟩ := hw_get (g := g) (X := X) hv
  obtain ⟨h1, h2⟩ := h_idx hij hj hb
  have he : hE g.2.1 (uB S a j (some v)) a = .inl (g.2.1 4, sN S a, .inr (.inr (.inr (.inr (va_up (sB S a) j (some v)))))) := by
    rw [hE_k (show sK (uB S a j (some v)) a = 10 from ho.2)]
    show (Sum.inl (g.2.1 4, sN S a, Sum.inr (Sum.inr (Sum.inr (Sum.inr (u2 (sB S) a j (some v) a))))) : va_E) = _
    rw [u2_row]
  have hset := hw_set (g := g) (X := X) (T := uB S a j (some v)) hw0.2 ho.1 hi0 rfl he (fun b hb => hE_uB S a j (some v) hb)
  refine va_astq (ci := 2) (r := (RX2, TX2, 4)) F.1.1 F.1.2.1 F.2.1.1 hw0.1 hw0.2 hS0 i0 4 i1 hi rfl hv1 rfl h1 d (fun H1 locs1 hP1 hD1 hS1 => ?_)
  rw [h2] at hP1 hD1
  rw [hset] at hP1 hD1
  exact kk H1 locs1 ls ⟨hP1, hD1⟩ hS1 hl
theorem q_aald_s (F : hF p l s m args meth c cc nL Ts own g) {i : Int32} {j N b : Nat} (ho : isO S a 11) (hN : sN S a = N) (hij : i = nI j) (hj : j < N) (hb : N < 2 ^ 31) (hr : sB S a j = some b) (d : decode cc pc = .ok (.aaload, 1))
    (kk : V p l e R s m args below meth c nL g X Q S cells slots lv (pc + 1) (.ref b :: st)) : V p l e R s m args below meth c nL g X Q S cells slots lv pc (.int i :: .ref a :: st) := by
  intro H locs ls hw0 hS0 hl
  subst hN
  obtain ⟨i0, -, hi⟩ := hw_get (g := g) (X := X) ho
  obtain ⟨h1, h2⟩ := h_idx hij hj hb
  refine va_aldq F.1.1 F.1.2.1 F.2.1.1 hw0.1 i0 5 hi rfl h1 d ?_
  rw [h2, hr]
  exact kk H locs ls hw0 hS0 hl
theorem q_aast_s (F : hF p l s m args meth c cc nL Ts own g) {i : Int32} {j N v : Nat} (ho : isO S a 11) (hN : sN S a = N) (hij : i = nI j) (hj : j < N) (hb : N < 2 ^ 31) (hv : isO S v 3) (d : decode cc pc = .ok (.aastore, 1))
    (kk : V p l e R s m args below meth c nL g X Q (uB S a j (some v)) cells slots lv (pc + 1) st) : V p l e R s m args below meth c nL g X Q S cells slots lv pc (.ref v :: .int i :: .ref a :: st) := by
  intro H locs ls hw0 hS0 hl
  subst hN
  obtain ⟨i0, hi0, hi⟩ := hw_get (g := g) (X := X) ho
  obtain ⟨i1, -, hv1⟩ := hw_get (g := g) (X := X) hv
  obtain ⟨h1, h2⟩ := h_idx hij hj hb
  have he : hE g.2.1 (uB S a j (some v)) a = .inl (g.2.1 5, sN S a, .inr (.inr (.inr (.inr (va_up (sB S a) j (some v)))))) := by
    rw [hE_k (show sK (uB S a j (some v)) a = 11 from ho.2)]
    show (Sum.inl (g.2.1 5, sN S a, Sum.inr (Sum.inr (Sum.inr (Sum.inr (u2 (sB S) a j (some v) a))))) : va_E) = _
    rw [u2_row]
  have hset := hw_set (g := g) (X := X) (T := uB S a j (some v)) hw0.2 ho.1 hi0 rfl he (fun b hb => hE_uB S a j (some v) hb)
  refine va_astq (ci := 3) (r := (RX3, TX3, 3)) F.1.1 F.1.2.1 F.2.1.1 hw0.1 hw0.2 hS0 i0 5 i1 hi rfl hv1 rfl h1 d (fun H1 locs1 hP1 hD1 hS1 => ?_)
  rw [h2] at hP1 hD1
  rw [hset] at hP1 hD1
  exact kk H1 locs1 ls ⟨hP1, hD1⟩ hS1 hl
end HHeap
end
section
section HFld
variable {p : Program} {l : Launch} {e : Env} {R : Room} {s : State} {m : MethodId} {args : Array Value} {below : List Frame} {meth : Method} {c : Code} {nL : Nat} {g : hG} {X : va_W} {Q : State → Prop} {S : hS} {cells slots : Nat} {lv : List (Nat × Value)} {pc : Nat} {st rest : List Value} {cc : ByteArray} {Ts : List Cond} {own : String}
variable {a b : Nat} {x : Int32}
theorem qp_X4_11 (F : hF p l s m args meth c cc nL Ts RX4 g) (hin2 : meth.name = "<init>") (ho : isO S a 4) (d : decode cc pc = .ok (.putfield 11, 3)) (kk : V p l e R s m args below meth c nL g X Q (uR S 40 a (some b)) cells slots lv (pc + 3) st) : V p l e R s m args below meth c nL g X Q S cells slots lv pc (.ref b :: .ref a :: st) :=
  q_putFG F (ci := 4) (k := 0) (C := RX4) (T := TX4) (N := 12) rfl inlX4 tyX4_ok nmX4 (by decide) (List.mem_of_getElem? (i := 14) (by decide +kernel)) rfl hin2 rfl (tyX4_ok 0 (by decide)) rfl rfl rfl (Nat.le_of_ble_eq_true rfl) (by rw [hE_k (show sK (uR S 40 a (some b)) a = 4 from ho.2)]; simp [hC, sR_uR, sF_uR, va_rf]) (fun b hb => hE_uR S 40 a _ hb) rfl ho d kk
theorem qp_X4_17 (F : hF p l s m args meth c cc nL Ts RX4 g) (hin2 : meth.name = "<init>") (ho : isO S a 4) (d : decode cc pc = .ok (.putfield 17, 3)) (kk : V p l e R s m args below meth c nL g X Q (uR S 42 a (some b)) cells slots lv (pc + 3) st) : V p l e R s m args below meth c nL g X Q S cells slots lv pc (.ref b :: .ref a :: st) :=
  q_putFG F (ci := 4) (k := 2) (C := RX4) (T := TX4) (N := 12) rfl inlX4 tyX4_ok nmX4 (by decide) (List.mem_of_getElem? (i := 16) (by decide +kernel)) rfl hin2 rfl (tyX4_ok 2 (by decide)) rfl rfl rfl (Nat.le_of_ble_eq_true rfl) (by rw [hE_k (show sK (uR S 42 a (some b)) a = 4 from ho.2)]; simp [hC, sR_uR, sF_uR, va_rf]) (fun b hb => hE_uR S 42 a _ hb) rfl ho d kk
theorem qp_X4_23 (F : hF p l s m args meth c cc nL Ts RX4 g) (hin2 : meth.name = "<init>") (ho : isO S a 4) (d : decode cc pc = .ok (.putfield 23, 3)) (kk : V p l e R s m args below meth c nL g X Q (uR S 44 a (some b)) cells slots lv (pc + 3) st) : V p l e R s m args below meth c nL g X Q S cells slots lv pc (.ref b :: .ref a :: st) :=
  q_putFG F (ci := 4) (k := 4) (C := RX4) (T := TX4) (N := 12) rfl inlX4 tyX4_ok nmX4 (by decide) (List.mem_of_getElem? (i := 18) (by decide +kernel)) rfl hin2 rfl (tyX4_ok 4 (by decide)) rfl rfl rfl (Nat.le_of_ble_eq_true rfl) (by rw [hE_k (show sK (uR S 44 a (some b)) a = 4 from ho.2)]; simp [hC, sR_uR, sF_uR, va_rf]) (fun b hb => hE_uR S 44 a _ hb) rfl ho d kk
theorem qp_X4_27 (F : hF p l s m args meth c cc nL Ts RX4 g) (ho : isO S a 4) (d : decode cc pc = .ok (.putfield 27, 3)) (kk : V p l e R s m args below meth c nL g X Q (uF S 47 a x) cells slots lv (pc + 3) st) : V p l e R s m args below meth c nL g X Q S cells slots lv pc (.int x :: .ref a :: st) :=
  q_putG F (ci := 4) (k := 7) (C := RX4) (T := TX4) (N := 12) rfl inlX4 tyX4_ok nmX4 (by decide) (List.mem_of_getElem? (i := 19) (by decide +kernel)) rfl (tyX4_ok 7 (by decide)) rfl rfl rfl (Nat.le_of_ble_eq_true rfl) (by rw [hE_k (show sK (uF S 47 a x) a = 4 from ho.2)]; simp [hC, sF_uF, sR_uF]) (fun b hb => hE_uF S 47 a _ hb) rfl ho d kk
theorem qp_X4_31 (F : hF p l s m args meth c cc nL Ts RX4 g) (ho : isO S a 4) (d : decode cc pc = .ok (.putfield 31, 3)) (kk : V p l e R s m args below meth c nL g X Q (uF S 51 a x) cells slots lv (pc + 3) st) : V p l e R s m args below meth c nL g X Q S cells slots lv pc (.int x :: .ref a :: st) :=
  q_putG F (ci := 4) (k := 11) (C := RX4) (T := TX4) (N := 12) rfl inlX4 tyX4_ok nmX4 (by decide) (List.mem_of_getElem? (i := 20) (by decide +kernel)) rfl (tyX4_ok 11 (by decide)) rfl rfl rfl (Nat.le_of_ble_eq_true rfl) (by rw [hE_k (show sK (uF S 51 a x) a = 4 from ho.2)]; simp [hC, sF_uF, sR_uF]) (fun b hb => hE_uF S 51 a _ hb) rfl ho d kk
theorem qg_X4_11 (F : hF p l s m args meth c cc nL Ts RX4 g) (hr : sR S 40 a = some b) (ho : isO S a 4) (d : decode cc pc = .ok (.getfield 11, 3)) (kk : V p l e R s m args below meth c nL g X Q S cells slots lv (pc + 3) (.ref b :: st)) : V p l e R s m args below meth c nL g X Q S cells slots lv pc (.ref a :: st) :=
  q_getG F (ci := 4) (k := 0) (C := RX4) (T := TX4) (N := 12) rfl inlX4 (by decide) (List.mem_of_getElem? (i := 14) (by decide +kernel)) rfl rfl ho d (v := va_rf (sR S 40 a)) (by rw [hr]; exact kk)
theorem qg_X4_47 (F : hF p l s m args meth c cc nL Ts RX4 g) (ho : isO S a 4) (d : decode cc pc = .ok (.getfield 47, 3)) (kk : V p l e R s m args below meth c nL g X Q S cells slots lv (pc + 3) (.int (sF S 41 a) :: st)) : V p l e R s m args below meth c nL g X Q S cells slots lv pc (.ref a :: st) :=
  q_getG F (ci := 4) (k := 1) (C := RX4) (T := TX4) (N := 12) rfl inlX4 (by decide) (List.mem_of_getElem? (i := 68) (by decide +kernel)) rfl rfl ho d kk
theorem qg_X4_65 (F : hF p l s m args meth c cc nL Ts RX4 g) (ho : isO S a 1) (d : decode cc pc = .ok (.getfield 65, 3)) (kk : V p l e R s m args below meth c nL g X Q S cells slots lv (pc + 3) (.int (sF S 11 a) :: st)) : V p l e R s m args below meth c nL g X Q S cells slots lv pc (.ref a :: st) :=
  q_getNG F (ci := 1) (k := 1) (C := RX1) (T := TX1) (N := 10) rfl inlX1 (by decide) (List.mem_of_getElem? (i := 1) rfl) rfl rfl ho d kk
theorem qg_X4_71 (F : hF p l s m args meth c cc nL Ts RX4 g) (ho : isO S a 4) (d : decode cc pc = .ok (.getfield 71, 3)) (kk : V p l e R s m args below meth c nL g X Q S cells slots lv (pc + 3) (.int (sF S 43 a) :: st)) : V p l e R s m args below meth c nL g X Q S cells slots lv pc (.ref a :: st) :=
  q_getG F (ci := 4) (k := 3) (C := RX4) (T := TX4) (N := 12) rfl inlX4 (by decide) (List.mem_of_getElem? (i := 230) (by decide +kernel)) rfl rfl ho d kk
theorem qg_X4_17 (F : hF p l s m args meth c cc nL Ts RX4 g) (hr : sR S 42 a = some b) (ho : isO S a 4) (d : decode cc pc = .ok (.getfield 17, 3)) (kk : V p l e R s m args below meth c nL g X Q S cells slots lv (pc + 3) (.ref b :: st)) : V p l e R s m args below meth c nL g X Q S cells slots lv pc (.ref a :: st) :=
  q_getG F (ci := 4) (k := 2) (C := RX4) (T := TX4) (N := 12) rfl inlX4 (by decide) (List.mem_of_getElem? (i := 16) (by decide +kernel)) rfl rfl ho d (v := va_rf (sR S 42 a)) (by rw [hr]; exact kk)
theorem qp_X4_71 (F : hF p l s m args meth c cc nL Ts RX4 g) (ho : isO S a 4) (d : decode cc pc = .ok (.putfield 71, 3)) (kk : V p l e R s m args below meth c nL g X Q (uF S 43 a x) cells slots lv (pc + 3) st) : V p l e R s m args below meth c nL g X Q S cells slots lv pc (.int x :: .ref a :: st) :=
  q_putG F (ci := 4) (k := 3) (C := RX4) (T := TX4) (N := 12) rfl inlX4 tyX4_ok nmX4 (by decide) (List.mem_of_getElem? (i := 230) (by decide +kernel)) rfl (tyX4_ok 3 (by decide)) rfl rfl rfl (Nat.le_of_ble_eq_true rfl) (by rw [hE_k (show sK (uF S 43 a x) a = 4 from ho.2)]; simp [hC, sF_uF, sR_uF]) (fun b hb => hE_uF S 43 a _ hb) rfl ho d kk
theorem qg_X4_84 (F : hF p l s m args meth c cc nL Ts RX4 g) (ho : isO S a 4) (d : decode cc pc = .ok (.getfield 84, 3)) (kk : V p l e R s m args below meth c nL g X Q S cells slots lv (pc + 3) (.int (sF S 45 a) :: st)) : V p l e R s m args below meth c nL g X Q S cells slots lv pc (.ref a :: st) :=
  q_getG F (ci := 4) (k := 5) (C := RX4) (T := TX4) (N := 12) rfl inlX4 (by decide) (List.mem_of_getElem? (i := 256) (by decide +kernel)) rfl rfl ho d kk
theorem qg_X4_23 (F : hF p l s m args meth c cc nL Ts RX4 g) (hr : sR S 44 a = some b) (ho : isO S a 4) (d : decode cc pc = .ok (.getfield 23, 3)) (kk : V p l e R s m args below meth c nL g X Q S cells slots lv (pc + 3) (.ref b :: st)) : V p l e R s m args below meth c nL g X Q S cells slots lv pc (.ref a :: st) :=
  q_getG F (ci := 4) (k := 4) (C := RX4) (T := TX4) (N := 12) rfl inlX4 (by decide) (List.mem_of_getElem? (i := 18) (by decide +kernel)) rfl rfl ho d (v := va_rf (sR S 44 a)) (by rw [hr]; exact kk)
theorem qp_X4_84 (F : hF p l s m args meth c cc nL Ts RX4 g) (ho : isO S a 4) (d : decode cc pc = .ok (.putfield 84, 3)) (kk : V p l e R s m args below meth c nL g X Q (uF S 45 a x) cells slots lv (pc + 3) st) : V p l e R s m args below meth c nL g X Q S cells slots lv pc (.int x :: .ref a :: st) :=
  q_putG F (ci := 4) (k := 5) (C := RX4) (T := TX4) (N := 12) rfl inlX4 tyX4_ok nmX4 (by decide) (List.mem_of_getElem? (i := 256) (by decide +kernel)) rfl (tyX4_ok 5 (by decide)) rfl rfl rfl (Nat.le_of_ble_eq_true rfl) (by rw [hE_k (show sK (uF S 45 a x) a = 4 from ho.2)]; simp [hC, sF_uF, sR_uF]) (fun b hb => hE_uF S 45 a _ hb) rfl ho d kk
theorem qg_X4_27 (F : hF p l s m args meth c cc nL Ts RX4 g) (ho : isO S a 4) (d : decode cc pc = .ok (.getfield 27, 3)) (kk : V p l e R s m args below meth c nL g X Q S cells slots lv (pc + 3) (.int (sF S 47 a) :: st)) : V p l e R s m args below meth c nL g X Q S cells slots lv pc (.ref a :: st) :=
  q_getG F (ci := 4) (k := 7) (C := RX4) (T := TX4) (N := 12) rfl inlX4 (by decide) (List.mem_of_getElem? (i := 19) (by decide +kernel)) rfl rfl ho d kk
theorem qp_X4_95 (F : hF p l s m args meth c cc nL Ts RX4 g) (hx : isB x) (ho : isO S a 4) (d : decode cc pc = .ok (.putfield 95, 3)) (kk : V p l e R s m args below meth c nL g X Q (uF S 48 a x) cells slots lv (pc + 3) st) : V p l e R s m args below meth c nL g X Q S cells slots lv pc (.int x :: .ref a :: st) :=
  q_putG F (ci := 4) (k := 8) (C := RX4) (T := TX4) (N := 12) rfl inlX4 tyX4_ok nmX4 (by decide) (List.mem_of_getElem? (i := 294) (by decide +kernel)) rfl (tyX4_ok 8 (by decide)) (isB_nar hx) (isB_fits hx) rfl (Nat.le_of_ble_eq_true rfl) (by rw [hE_k (show sK (uF S 48 a x) a = 4 from ho.2)]; simp [hC, sF_uF, sR_uF]) (fun b hb => hE_uF S 48 a _ hb) rfl ho d kk
theorem qg_X4_31 (F : hF p l s m args meth c cc nL Ts RX4 g) (ho : isO S a 4) (d : decode cc pc = .ok (.getfield 31, 3)) (kk : V p l e R s m args below meth c nL g X Q S cells slots lv (pc + 3) (.int (sF S 51 a) :: st)) : V p l e R s m args below meth c nL g X Q S cells slots lv pc (.ref a :: st) :=
  q_getG F (ci := 4) (k := 11) (C := RX4) (T := TX4) (N := 12) rfl inlX4 (by decide) (List.mem_of_getElem? (i := 20) (by decide +kernel)) rfl rfl ho d kk
theorem qg_X4_123 (F : hF p l s m args meth c cc nL Ts RX4 g) (ho : isO S a 4) (d : decode cc pc = .ok (.getfield 123, 3)) (kk : V p l e R s m args below meth c nL g X Q S cells slots lv (pc + 3) (.int (sF S 49 a) :: st)) : V p l e R s m args below meth c nL g X Q S cells slots lv pc (.ref a :: st) :=
  q_getG F (ci := 4) (k := 9) (C := RX4) (T := TX4) (N := 12) rfl inlX4 (by decide) (List.mem_of_getElem? (i := 372) (by decide +kernel)) rfl rfl ho d kk
theorem qg_X4_126 (F : hF p l s m args meth c cc nL Ts RX4 g) (ho : isO S a 4) (d : decode cc pc = .ok (.getfield 126, 3)) (kk : V p l e R s m args below meth c nL g X Q S cells slots lv (pc + 3) (.int (sF S 50 a) :: st)) : V p l e R s m args below meth c nL g X Q S cells slots lv pc (.ref a :: st) :=
  q_getG F (ci := 4) (k := 10) (C := RX4) (T := TX4) (N := 12) rfl inlX4 (by decide) (List.mem_of_getElem? (i := 373) (by decide +kernel)) rfl rfl ho d kk
theorem qg_X4_146 (F : hF p l s m args meth c cc nL Ts RX4 g) (ho : isO S a 4) (d : decode cc pc = .ok (.getfield 146, 3)) (kk : V p l e R s m args below meth c nL g X Q S cells slots lv (pc + 3) (.int (sF S 46 a) :: st)) : V p l e R s m args below meth c nL g X Q S cells slots lv pc (.ref a :: st) :=
  q_getG F (ci := 4) (k := 6) (C := RX4) (T := TX4) (N := 12) rfl inlX4 (by decide) (List.mem_of_getElem? (i := 83) (by decide +kernel)) rfl rfl ho d kk
theorem qp_X4_146 (F : hF p l s m args meth c cc nL Ts RX4 g) (ho : isO S a 4) (d : decode cc pc = .ok (.putfield 146, 3)) (kk : V p l e R s m args below meth c nL g X Q (uF S 46 a x) cells slots lv (pc + 3) st) : V p l e R s m args below meth c nL g X Q S cells slots lv pc (.int x :: .ref a :: st) :=
  q_putG F (ci := 4) (k := 6) (C := RX4) (T := TX4) (N := 12) rfl inlX4 tyX4_ok nmX4 (by decide) (List.mem_of_getElem? (i := 83) (by decide +kernel)) rfl (tyX4_ok 6 (by decide)) rfl rfl rfl (Nat.le_of_ble_eq_true rfl) (by rw [hE_k (show sK (uF S 46 a x) a = 4 from ho.2)]; simp [hC, sF_uF, sR_uF]) (fun b hb => hE_uF S 46 a _ hb) rfl ho d kk
theorem qg_X4_155 (F : hF p l s m args meth c cc nL Ts RX4 g) (ho : isO S a 1) (d : decode cc pc = .ok (.getfield 155, 3)) (kk : V p l e R s m args below meth c nL g X Q S cells slots lv (pc + 3) (.int (sF S 10 a) :: st)) : V p l e R s m args below meth c nL g X Q S cells slots lv pc (.ref a :: st) :=
  q_getNG F (ci := 1) (k := 0) (C := RX1) (T := TX1) (N := 10) rfl inlX1 (by decide) (List.mem_of_getElem? (i := 0) rfl) rfl rfl ho d kk
theorem qg_X4_158 (F : hF p l s m args meth c cc nL Ts RX4 g) (ho : isO S a 1) (d : decode cc pc = .ok (.getfield 158, 3)) (kk : V p l e R s m args below meth c nL g X Q S cells slots lv (pc + 3) (.int (sF S 12 a) :: st)) : V p l e R s m args below meth c nL g X Q S cells slots lv pc (.ref a :: st) :=
  q_getNG F (ci := 1) (k := 2) (C := RX1) (T := TX1) (N := 10) rfl inlX1 (by decide) (List.mem_of_getElem? (i := 2) rfl) rfl rfl ho d kk
theorem qg_X4_161 (F : hF p l s m args meth c cc nL Ts RX4 g) (ho : isO S a 1) (d : decode cc pc = .ok (.getfield 161, 3)) (kk : V p l e R s m args below meth c nL g X Q S cells slots lv (pc + 3) (.int (sF S 13 a) :: st)) : V p l e R s m args below meth c nL g X Q S cells slots lv pc (.ref a :: st) :=
  q_getNG F (ci := 1) (k := 3) (C := RX1) (T := TX1) (N := 10) rfl inlX1 (by decide) (List.mem_of_getElem? (i := 3) rfl) rfl rfl ho d kk
theorem qp_X4_47 (F : hF p l s m args meth c cc nL Ts RX4 g) (ho : isO S a 4) (d : decode cc pc = .ok (.putfield 47, 3)) (kk : V p l e R s m args below meth c nL g X Q (uF S 41 a x) cells slots lv (pc + 3) st) : V p l e R s m args below meth c nL g X Q S cells slots lv pc (.int x :: .ref a :: st) :=
  q_putG F (ci := 4) (k := 1) (C := RX4) (T := TX4) (N := 12) rfl inlX4 tyX4_ok nmX4 (by decide) (List.mem_of_getElem? (i := 68) (by decide +kernel)) rfl (tyX4_ok 1 (by decide)) rfl rfl rfl (Nat.le_of_ble_eq_true rfl) (by rw [hE_k (show sK (uF S 41 a x) a = 4 from ho.2)]; simp [hC, sF_uF, sR_uF]) (fun b hb => hE_uF S 41 a _ hb) rfl ho d kk
theorem qg_X4_95 (F : hF p l s m args meth c cc nL Ts RX4 g) (ho : isO S a 4) (d : decode cc pc = .ok (.getfield 95, 3)) (kk : V p l e R s m args below meth c nL g X Q S cells slots lv (pc + 3) (.int (sF S 48 a) :: st)) : V p l e R s m args below meth c nL g X Q S cells slots lv pc (.ref a :: st) :=
  q_getG F (ci := 4) (k := 8) (C := RX4) (T := TX4) (N := 12) rfl inlX4 (by decide) (List.mem_of_getElem? (i := 294) (by decide +kernel)) rfl rfl ho d kk
theorem qp_X4_158 (F : hF p l s m args meth c cc nL Ts RX4 g) (ho : isO S a 1) (d : decode cc pc = .ok (.putfield 158, 3)) (kk : V p l e R s m args below meth c nL g X Q (uF S 12 a x) cells slots lv (pc + 3) st) : V p l e R s m args below meth c nL g X Q S cells slots lv pc (.int x :: .ref a :: st) :=
  q_putNG F (ci := 1) (k := 2) (C := RX1) (T := TX1) (N := 10) rfl inlX1 tyX1_ok nmX1 (by decide) (List.mem_of_getElem? (i := 2) rfl) rfl (tyX1_ok 2 (by decide)) rfl rfl rfl (Nat.le_of_ble_eq_true rfl) (by rw [hE_k (show sK (uF S 12 a x) a = 1 from ho.2)]; simp [hC, sF_uF, sR_uF]) (fun b hb => hE_uF S 12 a _ hb) rfl ho d kk
theorem qp_X4_123 (F : hF p l s m args meth c cc nL Ts RX4 g) (ho : isO S a 4) (d : decode cc pc = .ok (.putfield 123, 3)) (kk : V p l e R s m args below meth c nL g X Q (uF S 49 a x) cells slots lv (pc + 3) st) : V p l e R s m args below meth c nL g X Q S cells slots lv pc (.int x :: .ref a :: st) :=
  q_putG F (ci := 4) (k := 9) (C := RX4) (T := TX4) (N := 12) rfl inlX4 tyX4_ok nmX4 (by decide) (List.mem_of_getElem? (i := 372) (by decide +kernel)) rfl (tyX4_ok 9 (by decide)) rfl rfl rfl (Nat.le_of_ble_eq_true rfl) (by rw [hE_k (show sK (uF S 49 a x) a = 4 from ho.2)]; simp [hC, sF_uF, sR_uF]) (fun b hb => hE_uF S 49 a _ hb) rfl ho d kk
theorem qp_X4_126 (F : hF p l s m args meth c cc nL Ts RX4 g) (ho : isO S a 4) (d : decode cc pc = .ok (.putfield 126, 3)) (kk : V p l e R s m args below meth c nL g X Q (uF S 50 a x) cells slots lv (pc + 3) st) : V p l e R s m args below meth c nL g X Q S cells slots lv pc (.int x :: .ref a :: st) :=
  q_putG F (ci := 4) (k := 10) (C := RX4) (T := TX4) (N := 12) rfl inlX4 tyX4_ok nmX4 (by decide) (List.mem_of_getElem? (i := 373) (by decide +kernel)) rfl (tyX4_ok 10 (by decide)) rfl rfl rfl (Nat.le_of_ble_eq_true rfl) (by rw [hE_k (show sK (uF S 50 a x) a = 4 from ho.2)]; simp [hC, sF_uF, sR_uF]) (fun b hb => hE_uF S 50 a _ hb) rfl ho d kk
theorem qg_X4_200 (F : hF p l s m args meth c cc nL Ts RX4 g) (ho : isO S a 0) (d : decode cc pc = .ok (.getfield 200, 3)) (kk : V p l e R s m args below meth c nL g X Q S cells slots lv (pc + 3) (.int (sF S 1 a) :: st)) : V p l e R s m args below meth c nL g X Q S cells slots lv pc (.ref a :: st) :=
  q_getNG F (ci := 0) (k := 1) (C := RX0) (T := TX0) (N := 7) rfl inlX0 (by decide) (List.mem_of_getElem? (i := 6) rfl) rfl rfl ho d kk
theorem qg_X4_219 (F : hF p l s m args meth c cc nL Ts RX4 g) (ho : isO S a 0) (d : decode cc pc = .ok (.getfield 219, 3)) (kk : V p l e R s m args below meth c nL g X Q S cells slots lv (pc + 3) (.int (sF S 0 a) :: st)) : V p l e R s m args below meth c nL g X Q S cells slots lv pc (.ref a :: st) :=
  q_getNG F (ci := 0) (k := 0) (C := RX0) (T := TX0) (N := 7) rfl inlX0 (by decide) (List.mem_of_getElem? (i := 5) rfl) rfl rfl ho d kk
theorem qg_X4_222 (F : hF p l s m args meth c cc nL Ts RX4 g) (ho : isO S a 0) (d : decode cc pc = .ok (.getfield 222, 3)) (kk : V p l e R s m args below meth c nL g X Q S cells slots lv (pc + 3) (.int (sF S 3 a) :: st)) : V p l e R s m args below meth c nL g X Q S cells slots lv pc (.ref a :: st) :=
  q_getNG F (ci := 0) (k := 3) (C := RX0) (T := TX0) (N := 7) rfl inlX0 (by decide) (List.mem_of_getElem? (i := 8) rfl) rfl rfl ho d kk
theorem qg_X4_225 (F : hF p l s m args meth c cc nL Ts RX4 g) (ho : isO S a 0) (d : decode cc pc = .ok (.getfield 225, 3)) (kk : V p l e R s m args below meth c nL g X Q S cells slots lv (pc + 3) (.int (sF S 2 a) :: st)) : V p l e R s m args below meth c nL g X Q S cells slots lv pc (.ref a :: st) :=
  q_getNG F (ci := 0) (k := 2) (C := RX0) (T := TX0) (N := 7) rfl inlX0 (by decide) (List.mem_of_getElem? (i := 7) rfl) rfl rfl ho d kk
theorem qg_X4_232 (F : hF p l s m args meth c cc nL Ts RX4 g) (ho : isO S a 0) (d : decode cc pc = .ok (.getfield 232, 3)) (kk : V p l e R s m args below meth c nL g X Q S cells slots lv (pc + 3) (.int (sF S 5 a) :: st)) : V p l e R s m args below meth c nL g X Q S cells slots lv pc (.ref a :: st) :=
  q_getNG F (ci := 0) (k := 5) (C := RX0) (T := TX0) (N := 7) rfl inlX0 (by decide) (List.mem_of_getElem? (i := 10) rfl) rfl rfl ho d kk
theorem qg_X4_235 (F : hF p l s m args meth c cc nL Ts RX4 g) (ho : isO S a 0) (d : decode cc pc = .ok (.getfield 235, 3)) (kk : V p l e R s m args below meth c nL g X Q S cells slots lv (pc + 3) (.int (sF S 6 a) :: st)) : V p l e R s m args below meth c nL g X Q S cells slots lv pc (.ref a :: st) :=
  q_getNG F (ci := 0) (k := 6) (C := RX0) (T := TX0) (N := 7) rfl inlX0 (by decide) (List.mem_of_getElem? (i := 11) rfl) rfl rfl ho d kk
theorem qg_X4_245 (F : hF p l s m args meth c cc nL Ts RX4 g) (ho : isO S a 0) (d : decode cc pc = .ok (.getfield 245, 3)) (kk : V p l e R s m args below meth c nL g X Q S cells slots lv (pc + 3) (.int (sF S 4 a) :: st)) : V p l e R s m args below meth c nL g X Q S cells slots lv pc (.ref a :: st) :=
  q_getNG F (ci := 0) (k := 4) (C := RX0) (T := TX0) (N := 7) rfl inlX0 (by decide) (List.mem_of_getElem? (i := 9) rfl) rfl rfl ho d kk
theorem qp_X5_7 (F : hF p l s m args meth c cc nL Ts RX5 g) (ho : isO S a 5) (d : decode cc pc = .ok (.putfield 7, 3)) (kk : V p l e R s m args below meth c nL g X Q (uF S 62 a x) cells slots lv (pc + 3) st) : V p l e R s m args below meth c nL g X Q S cells slots lv pc (.int x :: .ref a :: st) :=
  q_putG F (ci := 5) (k := 2) (C := RX5) (T := TX5) (N := 32) rfl inlX5 tyX5_ok nmX5 (by decide) (List.mem_of_getElem? (i := 32) (by decide +kernel)) rfl (tyX5_ok 2 (by decide)) rfl rfl rfl (Nat.le_of_ble_eq_true rfl) (by rw [hE_k (show sK (uF S 62 a x) a = 5 from ho.2)]; simp [hC, sF_uF, sR_uF]) (fun b hb => hE_uF S 62 a _ hb) rfl ho d kk
theorem qp_X5_13 (F : hF p l s m args meth c cc nL Ts RX5 g) (hin2 : meth.name = "<init>") (ho : isO S a 5) (d : decode cc pc = .ok (.putfield 13, 3)) (kk : V p l e R s m args below meth c nL g X Q (uR S 65 a (some b)) cells slots lv (pc + 3) st) : V p l e R s m args below meth c nL g X Q S cells slots lv pc (.ref b :: .ref a :: st) :=
  q_putFG F (ci := 5) (k := 5) (C := RX5) (T := TX5) (N := 32) rfl inlX5 tyX5_ok nmX5 (by decide) (List.mem_of_getElem? (i := 34) (by decide +kernel)) rfl hin2 rfl (tyX5_ok 5 (by decide)) rfl rfl rfl (Nat.le_of_ble_eq_true rfl) (by rw [hE_k (show sK (uR S 65 a (some b)) a = 5 from ho.2)]; simp [hC, sR_uR, sF_uR, va_rf]) (fun b hb => hE_uR S 65 a _ hb) rfl ho d kk
theorem qp_X5_17 (F : hF p l s m args meth c cc nL Ts RX5 g) (hin2 : meth.name = "<init>") (ho : isO S a 5) (d : decode cc pc = .ok (.putfield 17, 3)) (kk : V p l e R s m args below meth c nL g X Q (uR S 66 a (some b)) cells slots lv (pc + 3) st) : V p l e R s m args below meth c nL g X Q S cells slots lv pc (.ref b :: .ref a :: st) :=
  q_putFG F (ci := 5) (k := 6) (C := RX5) (T := TX5) (N := 32) rfl inlX5 tyX5_ok nmX5 (by decide) (List.mem_of_getElem? (i := 35) (by decide +kernel)) rfl hin2 rfl (tyX5_ok 6 (by decide)) rfl rfl rfl (Nat.le_of_ble_eq_true rfl) (by rw [hE_k (show sK (uR S 66 a (some b)) a = 5 from ho.2)]; simp [hC, sR_uR, sF_uR, va_rf]) (fun b hb => hE_uR S 66 a _ hb) rfl ho d kk
theorem qp_X5_20 (F : hF p l s m args meth c cc nL Ts RX5 g) (hin2 : meth.name = "<init>") (ho : isO S a 5) (d : decode cc pc = .ok (.putfield 20, 3)) (kk : V p l e R s m args below meth c nL g X Q (uR S 67 a (some b)) cells slots lv (pc + 3) st) : V p l e R s m args below meth c nL g X Q S cells slots lv pc (.ref b :: .ref a :: st) :=
  q_putFG F (ci := 5) (k := 7) (C := RX5) (T := TX5) (N := 32) rfl inlX5 tyX5_ok nmX5 (by decide) (List.mem_of_getElem? (i := 36) (by decide +kernel)) rfl hin2 rfl (tyX5_ok 7 (by decide)) rfl rfl rfl (Nat.le_of_ble_eq_true rfl) (by rw [hE_k (show sK (uR S 67 a (some b)) a = 5 from ho.2)]; simp [hC, sR_uR, sF_uR, va_rf]) (fun b hb => hE_uR S 67 a _ hb) rfl ho d kk
theorem qp_X5_23 (F : hF p l s m args meth c cc nL Ts RX5 g) (hin2 : meth.name = "<init>") (ho : isO S a 5) (d : decode cc pc = .ok (.putfield 23, 3)) (kk : V p l e R s m args below meth c nL g X Q (uR S 68 a (some b)) cells slots lv (pc + 3) st) : V p l e R s m args below meth c nL g X Q S cells slots lv pc (.ref b :: .ref a :: st) :=
  q_putFG F (ci := 5) (k := 8) (C := RX5) (T := TX5) (N := 32) rfl inlX5 tyX5_ok nmX5 (by decide) (List.mem_of_getElem? (i := 37) (by decide +kernel)) rfl hin2 rfl (tyX5_ok 8 (by decide)) rfl rfl rfl (Nat.le_of_ble_eq_true rfl) (by rw [hE_k (show sK (uR S 68 a (some b)) a = 5 from ho.2)]; simp [hC, sR_uR, sF_uR, va_rf]) (fun b hb => hE_uR S 68 a _ hb) rfl ho d kk
theorem qp_X5_26 (F : hF p l s m args meth c cc nL Ts RX5 g) (hin2 : meth.name = "<init>") (ho : isO S a 5) (d : decode cc pc = .ok (.putfield 26, 3)) (kk : V p l e R s m args below meth c nL g X Q (uR S 69 a (some b)) cells slots lv (pc + 3) st) : V p l e R s m args below meth c nL g X Q S cells slots lv pc (.ref b :: .ref a :: st) :=
  q_putFG F (ci := 5) (k := 9) (C := RX5) (T := TX5) (N := 32) rfl inlX5 tyX5_ok nmX5 (by decide) (List.mem_of_getElem? (i := 38) (by decide +kernel)) rfl hin2 rfl (tyX5_ok 9 (by decide)) rfl rfl rfl (Nat.le_of_ble_eq_true rfl) (by rw [hE_k (show sK (uR S 69 a (some b)) a = 5 from ho.2)]; simp [hC, sR_uR, sF_uR, va_rf]) (fun b hb => hE_uR S 69 a _ hb) rfl ho d kk
theorem qp_X5_29 (F : hF p l s m args meth c cc nL Ts RX5 g) (hin2 : meth.name = "<init>") (ho : isO S a 5) (d : decode cc pc = .ok (.putfield 29, 3)) (kk : V p l e R s m args below meth c nL g X Q (uR S 70 a (some b)) cells slots lv (pc + 3) st) : V p l e R s m args below meth c nL g X Q S cells slots lv pc (.ref b :: .ref a :: st) :=
  q_putFG F (ci := 5) (k := 10) (C := RX5) (T := TX5) (N := 32) rfl inlX5 tyX5_ok nmX5 (by decide) (List.mem_of_getElem? (i := 39) (by decide +kernel)) rfl hin2 rfl (tyX5_ok 10 (by decide)) rfl rfl rfl (Nat.le_of_ble_eq_true rfl) (by rw [hE_k (show sK (uR S 70 a (some b)) a = 5 from ho.2)]; simp [hC, sR_uR, sF_uR, va_rf]) (fun b hb => hE_uR S 70 a _ hb) rfl ho d kk
theorem qp_X5_32 (F : hF p l s m args meth c cc nL Ts RX5 g) (hin2 : meth.name = "<init>") (ho : isO S a 5) (d : decode cc pc = .ok (.putfield 32, 3)) (kk : V p l e R s m args below meth c nL g X Q (uR S 71 a (some b)) cells slots lv (pc + 3) st) : V p l e R s m args below meth c nL g X Q S cells slots lv pc (.ref b :: .ref a :: st) :=
  q_putFG F (ci := 5) (k := 11) (C := RX5) (T := TX5) (N := 32) rfl inlX5 tyX5_ok nmX5 (by decide) (List.mem_of_getElem? (i := 40) (by decide +kernel)) rfl hin2 rfl (tyX5_ok 11 (by decide)) rfl rfl rfl (Nat.le_of_ble_eq_true rfl) (by rw [hE_k (show sK (uR S 71 a (some b)) a = 5 from ho.2)]; simp [hC, sR_uR, sF_uR, va_rf]) (fun b hb => hE_uR S 71 a _ hb) rfl ho d kk
theorem qp_X5_35 (F : hF p l s m args meth c cc nL Ts RX5 g) (hin2 : meth.name = "<init>") (ho : isO S a 5) (d : decode cc pc = .ok (.putfield 35, 3)) (kk : V p l e R s m args below meth c nL g X Q (uR S 72 a (some b)) cells slots lv (pc + 3) st) : V p l e R s m args below meth c nL g X Q S cells slots lv pc (.ref b :: .ref a :: st) :=
  q_putFG F (ci := 5) (k := 12) (C := RX5) (T := TX5) (N := 32) rfl inlX5 tyX5_ok nmX5 (by decide) (List.mem_of_getElem? (i := 41) (by decide +kernel)) rfl hin2 rfl (tyX5_ok 12 (by decide)) rfl rfl rfl (Nat.le_of_ble_eq_true rfl) (by rw [hE_k (show sK (uR S 72 a (some b)) a = 5 from ho.2)]; simp [hC, sR_uR, sF_uR, va_rf]) (fun b hb => hE_uR S 72 a _ hb) rfl ho d kk
theorem qp_X5_38 (F : hF p l s m args meth c cc nL Ts RX5 g) (hin2 : meth.name = "<init>") (ho : isO S a 5) (d : decode cc pc = .ok (.putfield 38, 3)) (kk : V p l e R s m args below meth c nL g X Q (uR S 73 a (some b)) cells slots lv (pc + 3) st) : V p l e R s m args below meth c nL g X Q S cells slots lv pc (.ref b :: .ref a :: st) :=
  q_putFG F (ci := 5) (k := 13) (C := RX5) (T := TX5) (N := 32) rfl inlX5 tyX5_ok nmX5 (by decide) (List.mem_of_getElem? (i := 42) (by decide +kernel)) rfl hin2 rfl (tyX5_ok 13 (by decide)) rfl rfl rfl (Nat.le_of_ble_eq_true rfl) (by rw [hE_k (show sK (uR S 73 a (some b)) a = 5 from ho.2)]; simp [hC, sR_uR, sF_uR, va_rf]) (fun b hb => hE_uR S 73 a _ hb) rfl ho d kk
theorem qp_X5_41 (F : hF p l s m args meth c cc nL Ts RX5 g) (hin2 : meth.name = "<init>") (ho : isO S a 5) (d : decode cc pc = .ok (.putfield 41, 3)) (kk : V p l e R s m args below meth c nL g X Q (uR S 74 a (some b)) cells slots lv (pc + 3) st) : V p l e R s m args below meth c nL g X Q S cells slots lv pc (.ref b :: .ref a :: st) :=
  q_putFG F (ci := 5) (k := 14) (C := RX5) (T := TX5) (N := 32) rfl inlX5 tyX5_ok nmX5 (by decide) (List.mem_of_getElem? (i := 43) (by decide +kernel)) rfl hin2 rfl (tyX5_ok 14 (by decide)) rfl rfl rfl (Nat.le_of_ble_eq_true rfl) (by rw [hE_k (show sK (uR S 74 a (some b)) a = 5 from ho.2)]; simp [hC, sR_uR, sF_uR, va_rf]) (fun b hb => hE_uR S 74 a _ hb) rfl ho d kk
theorem qp_X5_44 (F : hF p l s m args meth c cc nL Ts RX5 g) (hin2 : meth.name = "<init>") (ho : isO S a 5) (d : decode cc pc = .ok (.putfield 44, 3)) (kk : V p l e R s m args below meth c nL g X Q (uR S 75 a (some b)) cells slots lv (pc + 3) st) : V p l e R s m args below meth c nL g X Q S cells slots lv pc (.ref b :: .ref a :: st) :=
  q_putFG F (ci := 5) (k := 15) (C := RX5) (T := TX5) (N := 32) rfl inlX5 tyX5_ok nmX5 (by decide) (List.mem_of_getElem? (i := 44) (by decide +kernel)) rfl hin2 rfl (tyX5_ok 15 (by decide)) rfl rfl rfl (Nat.le_of_ble_eq_true rfl) (by rw [hE_k (show sK (uR S 75 a (some b)) a = 5 from ho.2)]; simp [hC, sR_uR, sF_uR, va_rf]) (fun b hb => hE_uR S 75 a _ hb) rfl ho d kk
theorem qp_X5_47 (F : hF p l s m args meth c cc nL Ts RX5 g) (hin2 : meth.name = "<init>") (ho : isO S a 5) (d : decode cc pc = .ok (.putfield 47, 3)) (kk : V p l e R s m args below meth c nL g X Q (uR S 76 a (some b)) cells slots lv (pc + 3) st) : V p l e R s m args below meth c nL g X Q S cells slots lv pc (.ref b :: .ref a :: st) :=
  q_putFG F (ci := 5) (k := 16) (C := RX5) (T := TX5) (N := 32) rfl inlX5 tyX5_ok nmX5 (by decide) (List.mem_of_getElem? (i := 46) (by decide +kernel)) rfl hin2 rfl (tyX5_ok 16 (by decide)) rfl rfl rfl (Nat.le_of_ble_eq_true rfl) (by rw [hE_k (show sK (uR S 76 a (some b)) a = 5 from ho.2)]; simp [hC, sR_uR, sF_uR, va_rf]) (fun b hb => hE_uR S 76 a _ hb) rfl ho d kk
theorem qp_X5_51 (F : hF p l s m args meth c cc nL Ts RX5 g) (hin2 : meth.name = "<init>") (ho : isO S a 5) (d : decode cc pc = .ok (.putfield 51, 3)) (kk : V p l e R s m args below meth c nL g X Q (uR S 78 a (some b)) cells slots lv (pc + 3) st) : V p l e R s m args below meth c nL g X Q S cells slots lv pc (.ref b :: .ref a :: st) :=
  q_putFG F (ci := 5) (k := 18) (C := RX5) (T := TX5) (N := 32) rfl inlX5 tyX5_ok nmX5 (by decide) (List.mem_of_getElem? (i := 47) (by decide +kernel)) rfl hin2 rfl (tyX5_ok 18 (by decide)) rfl rfl rfl (Nat.le_of_ble_eq_true rfl) (by rw [hE_k (show sK (uR S 78 a (some b)) a = 5 from ho.2)]; simp [hC, sR_uR, sF_uR, va_rf]) (fun b hb => hE_uR S 78 a _ hb) rfl ho d kk
theorem qp_X5_54 (F : hF p l s m args meth c cc nL Ts RX5 g) (hin2 : meth.name = "<init>") (ho : isO S a 5) (d : decode cc pc = .ok (.putfield 54, 3)) (kk : V p l e R s m args below meth c nL g X Q (uR S 79 a (some b)) cells slots lv (pc + 3) st) : V p l e R s m args below meth c nL g X Q S cells slots lv pc (.ref b :: .ref a :: st) :=
  q_putFG F (ci := 5) (k := 19) (C := RX5) (T := TX5) (N := 32) rfl inlX5 tyX5_ok nmX5 (by decide) (List.mem_of_getElem? (i := 48) (by decide +kernel)) rfl hin2 rfl (tyX5_ok 19 (by decide)) rfl rfl rfl (Nat.le_of_ble_eq_true rfl) (by rw [hE_k (show sK (uR S 79 a (some b)) a = 5 from ho.2)]; simp [hC, sR_uR, sF_uR, va_rf]) (fun b hb => hE_uR S 79 a _ hb) rfl ho d kk
theorem qp_X5_57 (F : hF p l s m args meth c cc nL Ts RX5 g) (hin2 : meth.name = "<init>") (ho : isO S a 5) (d : decode cc pc = .ok (.putfield 57, 3)) (kk : V p l e R s m args below meth c nL g X Q (uR S 80 a (some b)) cells slots lv (pc + 3) st) : V p l e R s m args below meth c nL g X Q S cells slots lv pc (.ref b :: .ref a :: st) :=
  q_putFG F (ci := 5) (k := 20) (C := RX5) (T := TX5) (N := 32) rfl inlX5 tyX5_ok nmX5 (by decide) (List.mem_of_getElem? (i := 49) (by decide +kernel)) rfl hin2 rfl (tyX5_ok 20 (by decide)) rfl rfl rfl (Nat.le_of_ble_eq_true rfl) (by rw [hE_k (show sK (uR S 80 a (some b)) a = 5 from ho.2)]; simp [hC, sR_uR, sF_uR, va_rf]) (fun b hb => hE_uR S 80 a _ hb) rfl ho d kk
theorem qp_X5_60 (F : hF p l s m args meth c cc nL Ts RX5 g) (hin2 : meth.name = "<init>") (ho : isO S a 5) (d : decode cc pc = .ok (.putfield 60, 3)) (kk : V p l e R s m args below meth c nL g X Q (uR S 81 a (some b)) cells slots lv (pc + 3) st) : V p l e R s m args below meth c nL g X Q S cells slots lv pc (.ref b :: .ref a :: st) :=
  q_putFG F (ci := 5) (k := 21) (C := RX5) (T := TX5) (N := 32) rfl inlX5 tyX5_ok nmX5 (by decide) (List.mem_of_getElem? (i := 50) (by decide +kernel)) rfl hin2 rfl (tyX5_ok 21 (by decide)) rfl rfl rfl (Nat.le_of_ble_eq_true rfl) (by rw [hE_k (show sK (uR S 81 a (some b)) a = 5 from ho.2)]; simp [hC, sR_uR, sF_uR, va_rf]) (fun b hb => hE_uR S 81 a _ hb) rfl ho d kk
theorem qp_X5_63 (F : hF p l s m args meth c cc nL Ts RX5 g) (hin2 : meth.name = "<init>") (ho : isO S a 5) (d : decode cc pc = .ok (.putfield 63, 3)) (kk : V p l e R s m args below meth c nL g X Q (uR S 82 a (some b)) cells slots lv (pc + 3) st) : V p l e R s m args below meth c nL g X Q S cells slots lv pc (.ref b :: .ref a :: st) :=
  q_putFG F (ci := 5) (k := 22) (C := RX5) (T := TX5) (N := 32) rfl inlX5 tyX5_ok nmX5 (by decide) (List.mem_of_getElem? (i := 51) (by decide +kernel)) rfl hin2 rfl (tyX5_ok 22 (by decide)) rfl rfl rfl (Nat.le_of_ble_eq_true rfl) (by rw [hE_k (show sK (uR S 82 a (some b)) a = 5 from ho.2)]; simp [hC, sR_uR, sF_uR, va_rf]) (fun b hb => hE_uR S 82 a _ hb) rfl ho d kk
theorem qp_X5_66 (F : hF p l s m args meth c cc nL Ts RX5 g) (hin2 : meth.name = "<init>") (ho : isO S a 5) (d : decode cc pc = .ok (.putfield 66, 3)) (kk : V p l e R s m args below meth c nL g X Q (uR S 83 a (some b)) cells slots lv (pc + 3) st) : V p l e R s m args below meth c nL g X Q S cells slots lv pc (.ref b :: .ref a :: st) :=
  q_putFG F (ci := 5) (k := 23) (C := RX5) (T := TX5) (N := 32) rfl inlX5 tyX5_ok nmX5 (by decide) (List.mem_of_getElem? (i := 52) (by decide +kernel)) rfl hin2 rfl (tyX5_ok 23 (by decide)) rfl rfl rfl (Nat.le_of_ble_eq_true rfl) (by rw [hE_k (show sK (uR S 83 a (some b)) a = 5 from ho.2)]; simp [hC, sR_uR, sF_uR, va_rf]) (fun b hb => hE_uR S 83 a _ hb) rfl ho d kk
theorem qp_X5_69 (F : hF p l s m args meth c cc nL Ts RX5 g) (hin2 : meth.name = "<init>") (ho : isO S a 5) (d : decode cc pc = .ok (.putfield 69, 3)) (kk : V p l e R s m args below meth c nL g X Q (uR S 84 a (some b)) cells slots lv (pc + 3) st) : V p l e R s m args below meth c nL g X Q S cells slots lv pc (.ref b :: .ref a :: st) :=
  q_putFG F (ci := 5) (k := 24) (C := RX5) (T := TX5) (N := 32) rfl inlX5 tyX5_ok nmX5 (by decide) (List.mem_of_getElem? (i := 53) (by decide +kernel)) rfl hin2 rfl (tyX5_ok 24 (by decide)) rfl rfl rfl (Nat.le_of_ble_eq_true rfl) (by rw [hE_k (show sK (uR S 84 a (some b)) a = 5 from ho.2)]; simp [hC, sR_uR, sF_uR, va_rf]) (fun b hb => hE_uR S 84 a _ hb) rfl ho d kk
theorem qp_X5_72 (F : hF p l s m args meth c cc nL Ts RX5 g) (hin2 : meth.name = "<init>") (ho : isO S a 5) (d : decode cc pc = .ok (.putfield 72, 3)) (kk : V p l e R s m args below meth c nL g X Q (uR S 86 a (some b)) cells slots lv (pc + 3) st) : V p l e R s m args below meth c nL g X Q S cells slots lv pc (.ref b :: .ref a :: st) :=
  q_putFG F (ci := 5) (k := 26) (C := RX5) (T := TX5) (N := 32) rfl inlX5 tyX5_ok nmX5 (by decide) (List.mem_of_getElem? (i := 54) (by decide +kernel)) rfl hin2 rfl (tyX5_ok 26 (by decide)) rfl rfl rfl (Nat.le_of_ble_eq_true rfl) (by rw [hE_k (show sK (uR S 86 a (some b)) a = 5 from ho.2)]; simp [hC, sR_uR, sF_uR, va_rf]) (fun b hb => hE_uR S 86 a _ hb) rfl ho d kk
theorem qp_X5_75 (F : hF p l s m args meth c cc nL Ts RX5 g) (hin2 : meth.name = "<init>") (ho : isO S a 5) (d : decode cc pc = .ok (.putfield 75, 3)) (kk : V p l e R s m args below meth c nL g X Q (uR S 87 a (some b)) cells slots lv (pc + 3) st) : V p l e R s m args below meth c nL g X Q S cells slots lv pc (.ref b :: .ref a :: st) :=
  q_putFG F (ci := 5) (k := 27) (C := RX5) (T := TX5) (N := 32) rfl inlX5 tyX5_ok nmX5 (by decide) (List.mem_of_getElem? (i := 55) (by decide +kernel)) rfl hin2 rfl (tyX5_ok 27 (by decide)) rfl rfl rfl (Nat.le_of_ble_eq_true rfl) (by rw [hE_k (show sK (uR S 87 a (some b)) a = 5 from ho.2)]; simp [hC, sR_uR, sF_uR, va_rf]) (fun b hb => hE_uR S 87 a _ hb) rfl ho d kk
theorem qp_X5_78 (F : hF p l s m args meth c cc nL Ts RX5 g) (hin2 : meth.name = "<init>") (ho : isO S a 5) (d : decode cc pc = .ok (.putfield 78, 3)) (kk : V p l e R s m args below meth c nL g X Q (uR S 88 a (some b)) cells slots lv (pc + 3) st) : V p l e R s m args below meth c nL g X Q S cells slots lv pc (.ref b :: .ref a :: st) :=
  q_putFG F (ci := 5) (k := 28) (C := RX5) (T := TX5) (N := 32) rfl inlX5 tyX5_ok nmX5 (by decide) (List.mem_of_getElem? (i := 56) (by decide +kernel)) rfl hin2 rfl (tyX5_ok 28 (by decide)) rfl rfl rfl (Nat.le_of_ble_eq_true rfl) (by rw [hE_k (show sK (uR S 88 a (some b)) a = 5 from ho.2)]; simp [hC, sR_uR, sF_uR, va_rf]) (fun b hb => hE_uR S 88 a _ hb) rfl ho d kk
theorem qp_X5_81 (F : hF p l s m args meth c cc nL Ts RX5 g) (ho : isO S a 5) (d : decode cc pc = .ok (.putfield 81, 3)) (kk : V p l e R s m args below meth c nL g X Q (uF S 89 a x) cells slots lv (pc + 3) st) : V p l e R s m args below meth c nL g X Q S cells slots lv pc (.int x :: .ref a :: st) :=
  q_putG F (ci := 5) (k := 29) (C := RX5) (T := TX5) (N := 32) rfl inlX5 tyX5_ok nmX5 (by decide) (List.mem_of_getElem? (i := 57) (by decide +kernel)) rfl (tyX5_ok 29 (by decide)) rfl rfl rfl (Nat.le_of_ble_eq_true rfl) (by rw [hE_k (show sK (uF S 89 a x) a = 5 from ho.2)]; simp [hC, sF_uF, sR_uF]) (fun b hb => hE_uF S 89 a _ hb) rfl ho d kk
theorem qg_X5_84 (F : hF p l s m args meth c cc nL Ts RX5 g) (ho : isO S a 5) (d : decode cc pc = .ok (.getfield 84, 3)) (kk : V p l e R s m args below meth c nL g X Q S cells slots lv (pc + 3) (.int (sF S 60 a) :: st)) : V p l e R s m args below meth c nL g X Q S cells slots lv pc (.ref a :: st) :=
  q_getG F (ci := 5) (k := 0) (C := RX5) (T := TX5) (N := 32) rfl inlX5 (by decide) (List.mem_of_getElem? (i := 112) (by decide +kernel)) rfl rfl ho d kk
theorem qp_X5_84 (F : hF p l s m args meth c cc nL Ts RX5 g) (ho : isO S a 5) (d : decode cc pc = .ok (.putfield 84, 3)) (kk : V p l e R s m args below meth c nL g X Q (uF S 60 a x) cells slots lv (pc + 3) st) : V p l e R s m args below meth c nL g X Q S cells slots lv pc (.int x :: .ref a :: st) :=
  q_putG F (ci := 5) (k := 0) (C := RX5) (T := TX5) (N := 32) rfl inlX5 tyX5_ok nmX5 (by decide) (List.mem_of_getElem? (i := 112) (by decide +kernel)) rfl (tyX5_ok 0 (by decide)) rfl rfl rfl (Nat.le_of_ble_eq_true rfl) (by rw [hE_k (show sK (uF S 60 a x) a = 5 from ho.2)]; simp [hC, sF_uF, sR_uF]) (fun b hb => hE_uF S 60 a _ hb) rfl ho d kk
theorem qg_X5_91 (F : hF p l s m args meth c cc nL Ts RX5 g) (ho : isO S a 5) (d : decode cc pc = .ok (.getfield 91, 3)) (kk : V p l e R s m args below meth c nL g X Q S cells slots lv (pc + 3) (.int (sF S 64 a) :: st)) : V p l e R s m args below meth c nL g X Q S cells slots lv pc (.ref a :: st) :=
  q_getG F (ci := 5) (k := 4) (C := RX5) (T := TX5) (N := 32) rfl inlX5 (by decide) (List.mem_of_getElem? (i := 98) (by decide +kernel)) rfl rfl ho d kk
theorem qg_X5_26 (F : hF p l s m args meth c cc nL Ts RX5 g) (hr : sR S 69 a = some b) (ho : isO S a 5) (d : decode cc pc = .ok (.getfield 26, 3)) (kk : V p l e R s m args below meth c nL g X Q S cells slots lv (pc + 3) (.ref b :: st)) : V p l e R s m args below meth c nL g X Q S cells slots lv pc (.ref a :: st) :=
  q_getG F (ci := 5) (k := 9) (C := RX5) (T := TX5) (N := 32) rfl inlX5 (by decide) (List.mem_of_getElem? (i := 38) (by decide +kernel)) rfl rfl ho d (v := va_rf (sR S 69 a)) (by rw [hr]; exact kk)
theorem qg_X5_32 (F : hF p l s m args meth c cc nL Ts RX5 g) (hr : sR S 71 a = some b) (ho : isO S a 5) (d : decode cc pc = .ok (.getfield 32, 3)) (kk : V p l e R s m args below meth c nL g X Q S cells slots lv (pc + 3) (.ref b :: st)) : V p l e R s m args below meth c nL g X Q S cells slots lv pc (.ref a :: st) :=
  q_getG F (ci := 5) (k := 11) (C := RX5) (T := TX5) (N := 32) rfl inlX5 (by decide) (List.mem_of_getElem? (i := 40) (by decide +kernel)) rfl rfl ho d (v := va_rf (sR S 71 a)) (by rw [hr]; exact kk)
theorem qg_X5_29 (F : hF p l s m args meth c cc nL Ts RX5 g) (hr : sR S 70 a = some b) (ho : isO S a 5) (d : decode cc pc = .ok (.getfield 29, 3)) (kk : V p l e R s m args below meth c nL g X Q S cells slots lv (pc + 3) (.ref b :: st)) : V p l e R s m args below meth c nL g X Q S cells slots lv pc (.ref a :: st) :=
  q_getG F (ci := 5) (k := 10) (C := RX5) (T := TX5) (N := 32) rfl inlX5 (by decide) (List.mem_of_getElem? (i := 39) (by decide +kernel)) rfl rfl ho d (v := va_rf (sR S 70 a)) (by rw [hr]; exact kk)
theorem qg_X5_35 (F : hF p l s m args meth c cc nL Ts RX5 g) (hr : sR S 72 a = some b) (ho : isO S a 5) (d : decode cc pc = .ok (.getfield 35, 3)) (kk : V p l e R s m args below meth c nL g X Q S cells slots lv (pc + 3) (.ref b :: st)) : V p l e R s m args below meth c nL g X Q S cells slots lv pc (.ref a :: st) :=
  q_getG F (ci := 5) (k := 12) (C := RX5) (T := TX5) (N := 32) rfl inlX5 (by decide) (List.mem_of_getElem? (i := 41) (by decide +kernel)) rfl rfl ho d (v := va_rf (sR S 72 a)) (by rw [hr]; exact kk)
theorem qg_X5_44 (F : hF p l s m args meth c cc nL Ts RX5 g) (hr : sR S 75 a = some b) (ho : isO S a 5) (d : decode cc pc = .ok (.getfield 44, 3)) (kk : V p l e R s m args below meth c nL g X Q S cells slots lv (pc + 3) (.ref b :: st)) : V p l e R s m args below meth c nL g X Q S cells slots lv pc (.ref a :: st) :=
  q_getG F (ci := 5) (k := 15) (C := RX5) (T := TX5) (N := 32) rfl inlX5 (by decide) (List.mem_of_getElem? (i := 44) (by decide +kernel)) rfl rfl ho d (v := va_rf (sR S 75 a)) (by rw [hr]; exact kk)
theorem qg_X5_38 (F : hF p l s m args meth c cc nL Ts RX5 g) (hr : sR S 73 a = some b) (ho : isO S a 5) (d : decode cc pc = .ok (.getfield 38, 3)) (kk : V p l e R s m args below meth c nL g X Q S cells slots lv (pc + 3) (.ref b :: st)) : V p l e R s m args below meth c nL g X Q S cells slots lv pc (.ref a :: st) :=
  q_getG F (ci := 5) (k := 13) (C := RX5) (T := TX5) (N := 32) rfl inlX5 (by decide) (List.mem_of_getElem? (i := 42) (by decide +kernel)) rfl rfl ho d (v := va_rf (sR S 73 a)) (by rw [hr]; exact kk)
theorem qg_X5_41 (F : hF p l s m args meth c cc nL Ts RX5 g) (hr : sR S 74 a = some b) (ho : isO S a 5) (d : decode cc pc = .ok (.getfield 41, 3)) (kk : V p l e R s m args below meth c nL g X Q S cells slots lv (pc + 3) (.ref b :: st)) : V p l e R s m args below meth c nL g X Q S cells slots lv pc (.ref a :: st) :=
  q_getG F (ci := 5) (k := 14) (C := RX5) (T := TX5) (N := 32) rfl inlX5 (by decide) (List.mem_of_getElem? (i := 43) (by decide +kernel)) rfl rfl ho d (v := va_rf (sR S 74 a)) (by rw [hr]; exact kk)
theorem qg_X5_47 (F : hF p l s m args meth c cc nL Ts RX5 g) (hr : sR S 76 a = some b) (ho : isO S a 5) (d : decode cc pc = .ok (.getfield 47, 3)) (kk : V p l e R s m args below meth c nL g X Q S cells slots lv (pc + 3) (.ref b :: st)) : V p l e R s m args below meth c nL g X Q S cells slots lv pc (.ref a :: st) :=
  q_getG F (ci := 5) (k := 16) (C := RX5) (T := TX5) (N := 32) rfl inlX5 (by decide) (List.mem_of_getElem? (i := 46) (by decide +kernel)) rfl rfl ho d (v := va_rf (sR S 76 a)) (by rw [hr]; exact kk)
theorem qg_X5_23 (F : hF p l s m args meth c cc nL Ts RX5 g) (hr : sR S 68 a = some b) (ho : isO S a 5) (d : decode cc pc = .ok (.getfield 23, 3)) (kk : V p l e R s m args below meth c nL g X Q S cells slots lv (pc + 3) (.ref b :: st)) : V p l e R s m args below meth c nL g X Q S cells slots lv pc (.ref a :: st) :=
  q_getG F (ci := 5) (k := 8) (C := RX5) (T := TX5) (N := 32) rfl inlX5 (by decide) (List.mem_of_getElem? (i := 37) (by decide +kernel)) rfl rfl ho d (v := va_rf (sR S 68 a)) (by rw [hr]; exact kk)
theorem qg_X5_101 (F : hF p l s m args meth c cc nL Ts RX5 g) (ho : isO S a 5) (d : decode cc pc = .ok (.getfield 101, 3)) (kk : V p l e R s m args below meth c nL g X Q S cells slots lv (pc + 3) (.int (sF S 61 a) :: st)) : V p l e R s m args below meth c nL g X Q S cells slots lv pc (.ref a :: st) :=
  q_getG F (ci := 5) (k := 1) (C := RX5) (T := TX5) (N := 32) rfl inlX5 (by decide) (List.mem_of_getElem? (i := 117) (by decide +kernel)) rfl rfl ho d kk
theorem qg_X5_13 (F : hF p l s m args meth c cc nL Ts RX5 g) (hr : sR S 65 a = some b) (ho : isO S a 5) (d : decode cc pc = .ok (.getfield 13, 3)) (kk : V p l e R s m args below meth c nL g X Q S cells slots lv (pc + 3) (.ref b :: st)) : V p l e R s m args below meth c nL g X Q S cells slots lv pc (.ref a :: st) :=
  q_getG F (ci := 5) (k := 5) (C := RX5) (T := TX5) (N := 32) rfl inlX5 (by decide) (List.mem_of_getElem? (i := 34) (by decide +kernel)) rfl rfl ho d (v := va_rf (sR S 65 a)) (by rw [hr]; exact kk)
theorem qg_X5_17 (F : hF p l s m args meth c cc nL Ts RX5 g) (hr : sR S 66 a = some b) (ho : isO S a 5) (d : decode cc pc = .ok (.getfield 17, 3)) (kk : V p l e R s m args below meth c nL g X Q S cells slots lv (pc + 3) (.ref b :: st)) : V p l e R s m args below meth c nL g X Q S cells slots lv pc (.ref a :: st) :=
  q_getG F (ci := 5) (k := 6) (C := RX5) (T := TX5) (N := 32) rfl inlX5 (by decide) (List.mem_of_getElem? (i := 35) (by decide +kernel)) rfl rfl ho d (v := va_rf (sR S 66 a)) (by rw [hr]; exact kk)
theorem qg_X5_20 (F : hF p l s m args meth c cc nL Ts RX5 g) (hr : sR S 67 a = some b) (ho : isO S a 5) (d : decode cc pc = .ok (.getfield 20, 3)) (kk : V p l e R s m args below meth c nL g X Q S cells slots lv (pc + 3) (.ref b :: st)) : V p l e R s m args below meth c nL g X Q S cells slots lv pc (.ref a :: st) :=
  q_getG F (ci := 5) (k := 7) (C := RX5) (T := TX5) (N := 32) rfl inlX5 (by decide) (List.mem_of_getElem? (i := 36) (by decide +kernel)) rfl rfl ho d (v := va_rf (sR S 67 a)) (by rw [hr]; exact kk)
theorem qp_X5_91 (F : hF p l s m args meth c cc nL Ts RX5 g) (ho : isO S a 5) (d : decode cc pc = .ok (.putfield 91, 3)) (kk : V p l e R s m args below meth c nL g X Q (uF S 64 a x) cells slots lv (pc + 3) st) : V p l e R s m args below meth c nL g X Q S cells slots lv pc (.int x :: .ref a :: st) :=
  q_putG F (ci := 5) (k := 4) (C := RX5) (T := TX5) (N := 32) rfl inlX5 tyX5_ok nmX5 (by decide) (List.mem_of_getElem? (i := 98) (by decide +kernel)) rfl (tyX5_ok 4 (by decide)) rfl rfl rfl (Nat.le_of_ble_eq_true rfl) (by rw [hE_k (show sK (uF S 64 a x) a = 5 from ho.2)]; simp [hC, sF_uF, sR_uF]) (fun b hb => hE_uF S 64 a _ hb) rfl ho d kk
theorem qg_X5_142 (F : hF p l s m args meth c cc nL Ts RX5 g) (ho : isO S a 5) (d : decode cc pc = .ok (.getfield 142, 3)) (kk : V p l e R s m args below meth c nL g X Q S cells slots lv (pc + 3) (.int (sF S 77 a) :: st)) : V p l e R s m args below meth c nL g X Q S cells slots lv pc (.ref a :: st) :=
  q_getG F (ci := 5) (k := 17) (C := RX5) (T := TX5) (N := 32) rfl inlX5 (by decide) (List.mem_of_getElem? (i := 248) (by decide +kernel)) rfl rfl ho d kk
theorem qg_X5_51 (F : hF p l s m args meth c cc nL Ts RX5 g) (hr : sR S 78 a = some b) (ho : isO S a 5) (d : decode cc pc = .ok (.getfield 51, 3)) (kk : V p l e R s m args below meth c nL g X Q S cells slots lv (pc + 3) (.ref b :: st)) : V p l e R s m args below meth c nL g X Q S cells slots lv pc (.ref a :: st) :=
  q_getG F (ci := 5) (k := 18) (C := RX5) (T := TX5) (N := 32) rfl inlX5 (by decide) (List.mem_of_getElem? (i := 47) (by decide +kernel)) rfl rfl ho d (v := va_rf (sR S 78 a)) (by rw [hr]; exact kk)
theorem qg_X5_54 (F : hF p l s m args meth c cc nL Ts RX5 g) (hr : sR S 79 a = some b) (ho : isO S a 5) (d : decode cc pc = .ok (.getfield 54, 3)) (kk : V p l e R s m args below meth c nL g X Q S cells slots lv (pc + 3) (.ref b :: st)) : V p l e R s m args below meth c nL g X Q S cells slots lv pc (.ref a :: st) :=
  q_getG F (ci := 5) (k := 19) (C := RX5) (T := TX5) (N := 32) rfl inlX5 (by decide) (List.mem_of_getElem? (i := 48) (by decide +kernel)) rfl rfl ho d (v := va_rf (sR S 79 a)) (by rw [hr]; exact kk)
theorem qg_X5_57 (F : hF p l s m args meth c cc nL Ts RX5 g) (hr : sR S 80 a = some b) (ho : isO S a 5) (d : decode cc pc = .ok (.getfield 57, 3)) (kk : V p l e R s m args below meth c nL g X Q S cells slots lv (pc + 3) (.ref b :: st)) : V p l e R s m args below meth c nL g X Q S cells slots lv pc (.ref a :: st) :=
  q_getG F (ci := 5) (k := 20) (C := RX5) (T := TX5) (N := 32) rfl inlX5 (by decide) (List.mem_of_getElem? (i := 49) (by decide +kernel)) rfl rfl ho d (v := va_rf (sR S 80 a)) (by rw [hr]; exact kk)
theorem qg_X5_60 (F : hF p l s m args meth c cc nL Ts RX5 g) (hr : sR S 81 a = some b) (ho : isO S a 5) (d : decode cc pc = .ok (.getfield 60, 3)) (kk : V p l e R s m args below meth c nL g X Q S cells slots lv (pc + 3) (.ref b :: st)) : V p l e R s m args below meth c nL g X Q S cells slots lv pc (.ref a :: st) :=
  q_getG F (ci := 5) (k := 21) (C := RX5) (T := TX5) (N := 32) rfl inlX5 (by decide) (List.mem_of_getElem? (i := 50) (by decide +kernel)) rfl rfl ho d (v := va_rf (sR S 81 a)) (by rw [hr]; exact kk)
theorem qg_X5_63 (F : hF p l s m args meth c cc nL Ts RX5 g) (hr : sR S 82 a = some b) (ho : isO S a 5) (d : decode cc pc = .ok (.getfield 63, 3)) (kk : V p l e R s m args below meth c nL g X Q S cells slots lv (pc + 3) (.ref b :: st)) : V p l e R s m args below meth c nL g X Q S cells slots lv pc (.ref a :: st) :=
  q_getG F (ci := 5) (k := 22) (C := RX5) (T := TX5) (N := 32) rfl inlX5 (by decide) (List.mem_of_getElem? (i := 51) (by decide +kernel)) rfl rfl ho d (v := va_rf (sR S 82 a)) (by rw [hr]; exact kk)
theorem qg_X5_66 (F : hF p l s m args meth c cc nL Ts RX5 g) (hr : sR S 83 a = some b) (ho : isO S a 5) (d : decode cc pc = .ok (.getfield 66, 3)) (kk : V p l e R s m args below meth c nL g X Q S cells slots lv (pc + 3) (.ref b :: st)) : V p l e R s m args below meth c nL g X Q S cells slots lv pc (.ref a :: st) :=
  q_getG F (ci := 5) (k := 23) (C := RX5) (T := TX5) (N := 32) rfl inlX5 (by decide) (List.mem_of_getElem? (i := 52) (by decide +kernel)) rfl rfl ho d (v := va_rf (sR S 83 a)) (by rw [hr]; exact kk)
theorem qg_X5_69 (F : hF p l s m args meth c cc nL Ts RX5 g) (hr : sR S 84 a = some b) (ho : isO S a 5) (d : decode cc pc = .ok (.getfield 69, 3)) (kk : V p l e R s m args below meth c nL g X Q S cells slots lv (pc + 3) (.ref b :: st)) : V p l e R s m args below meth c nL g X Q S cells slots lv pc (.ref a :: st) :=
  q_getG F (ci := 5) (k := 24) (C := RX5) (T := TX5) (N := 32) rfl inlX5 (by decide) (List.mem_of_getElem? (i := 53) (by decide +kernel)) rfl rfl ho d (v := va_rf (sR S 84 a)) (by rw [hr]; exact kk)
theorem qp_X5_142 (F : hF p l s m args meth c cc nL Ts RX5 g) (ho : isO S a 5) (d : decode cc pc = .ok (.putfield 142, 3)) (kk : V p l e R s m args below meth c nL g X Q (uF S 77 a x) cells slots lv (pc + 3) st) : V p l e R s m args below meth c nL g X Q S cells slots lv pc (.int x :: .ref a :: st) :=
  q_putG F (ci := 5) (k := 17) (C := RX5) (T := TX5) (N := 32) rfl inlX5 tyX5_ok nmX5 (by decide) (List.mem_of_getElem? (i := 248) (by decide +kernel)) rfl (tyX5_ok 17 (by decide)) rfl rfl rfl (Nat.le_of_ble_eq_true rfl) (by rw [hE_k (show sK (uF S 77 a x) a = 5 from ho.2)]; simp [hC, sF_uF, sR_uF]) (fun b hb => hE_uF S 77 a _ hb) rfl ho d kk
theorem qg_X5_145 (F : hF p l s m args meth c cc nL Ts RX5 g) (ho : isO S a 5) (d : decode cc pc = .ok (.getfield 145, 3)) (kk : V p l e R s m args below meth c nL g X Q S cells slots lv (pc + 3) (.int (sF S 85 a) :: st)) : V p l e R s m args below meth c nL g X Q S cells slots lv pc (.ref a :: st) :=
  q_getG F (ci := 5) (k := 25) (C := RX5) (T := TX5) (N := 32) rfl inlX5 (by decide) (List.mem_of_getElem? (i := 282) (by decide +kernel)) rfl rfl ho d kk
theorem qg_X5_72 (F : hF p l s m args meth c cc nL Ts RX5 g) (hr : sR S 86 a = some b) (ho : isO S a 5) (d : decode cc pc = .ok (.getfield 72, 3)) (kk : V p l e R s m args below meth c nL g X Q S cells slots lv (pc + 3) (.ref b :: st)) : V p l e R s m args below meth c nL g X Q S cells slots lv pc (.ref a :: st) :=
  q_getG F (ci := 5) (k := 26) (C := RX5) (T := TX5) (N := 32) rfl inlX5 (by decide) (List.mem_of_getElem? (i := 54) (by decide +kernel)) rfl rfl ho d (v := va_rf (sR S 86 a)) (by rw [hr]; exact kk)
theorem qg_X5_75 (F : hF p l s m args meth c cc nL Ts RX5 g) (hr : sR S 87 a = some b) (ho : isO S a 5) (d : decode cc pc = .ok (.getfield 75, 3)) (kk : V p l e R s m args below meth c nL g X Q S cells slots lv (pc + 3) (.ref b :: st)) : V p l e R s m args below meth c nL g X Q S cells slots lv pc (.ref a :: st) :=
  q_getG F (ci := 5) (k := 27) (C := RX5) (T := TX5) (N := 32) rfl inlX5 (by decide) (List.mem_of_getElem? (i := 55) (by decide +kernel)) rfl rfl ho d (v := va_rf (sR S 87 a)) (by rw [hr]; exact kk)
theorem qg_X5_78 (F : hF p l s m args meth c cc nL Ts RX5 g) (hr : sR S 88 a = some b) (ho : isO S a 5) (d : decode cc pc = .ok (.getfield 78, 3)) (kk : V p l e R s m args below meth c nL g X Q S cells slots lv (pc + 3) (.ref b :: st)) : V p l e R s m args below meth c nL g X Q S cells slots lv pc (.ref a :: st) :=
  q_getG F (ci := 5) (k := 28) (C := RX5) (T := TX5) (N := 32) rfl inlX5 (by decide) (List.mem_of_getElem? (i := 56) (by decide +kernel)) rfl rfl ho d (v := va_rf (sR S 88 a)) (by rw [hr]; exact kk)
theorem qp_X5_145 (F : hF p l s m args meth c cc nL Ts RX5 g) (ho : isO S a 5) (d : decode cc pc = .ok (.putfield 145, 3)) (kk : V p l e R s m args below meth c nL g X Q (uF S 85 a x) cells slots lv (pc + 3) st) : V p l e R s m args below meth c nL g X Q S cells slots lv pc (.int x :: .ref a :: st) :=
  q_putG F (ci := 5) (k := 25) (C := RX5) (T := TX5) (N := 32) rfl inlX5 tyX5_ok nmX5 (by decide) (List.mem_of_getElem? (i := 282) (by decide +kernel)) rfl (tyX5_ok 25 (by decide)) rfl rfl rfl (Nat.le_of_ble_eq_true rfl) (by rw [hE_k (show sK (uF S 85 a x) a = 5 from ho.2)]; simp [hC, sF_uF, sR_uF]) (fun b hb => hE_uF S 85 a _ hb) rfl ho d kk
theorem qg_X5_7 (F : hF p l s m args meth c cc nL Ts RX5 g) (ho : isO S a 5) (d : decode cc pc = .ok (.getfield 7, 3)) (kk : V p l e R s m args below meth c nL g X Q S cells slots lv (pc + 3) (.int (sF S 62 a) :: st)) : V p l e R s m args below meth c nL g X Q S cells slots lv pc (.ref a :: st) :=
  q_getG F (ci := 5) (k := 2) (C := RX5) (T := TX5) (N := 32) rfl inlX5 (by decide) (List.mem_of_getElem? (i := 32) (by decide +kernel)) rfl rfl ho d kk
theorem qp_X5_164 (F : hF p l s m args meth c cc nL Ts RX5 g) (hx : isB x) (ho : isO S a 5) (d : decode cc pc = .ok (.putfield 164, 3)) (kk : V p l e R s m args below meth c nL g X Q (uF S 63 a x) cells slots lv (pc + 3) st) : V p l e R s m args below meth c nL g X Q S cells slots lv pc (.int x :: .ref a :: st) :=
  q_putG F (ci := 5) (k := 3) (C := RX5) (T := TX5) (N := 32) rfl inlX5 tyX5_ok nmX5 (by decide) (List.mem_of_getElem? (i := 299) (by decide +kernel)) rfl (tyX5_ok 3 (by decide)) (isB_nar hx) (isB_fits hx) rfl (Nat.le_of_ble_eq_true rfl) (by rw [hE_k (show sK (uF S 63 a x) a = 5 from ho.2)]; simp [hC, sF_uF, sR_uF]) (fun b hb => hE_uF S 63 a _ hb) rfl ho d kk
theorem qg_X5_164 (F : hF p l s m args meth c cc nL Ts RX5 g) (ho : isO S a 5) (d : decode cc pc = .ok (.getfield 164, 3)) (kk : V p l e R s m args below meth c nL g X Q S cells slots lv (pc + 3) (.int (sF S 63 a) :: st)) : V p l e R s m args below meth c nL g X Q S cells slots lv pc (.ref a :: st) :=
  q_getG F (ci := 5) (k := 3) (C := RX5) (T := TX5) (N := 32) rfl inlX5 (by decide) (List.mem_of_getElem? (i := 299) (by decide +kernel)) rfl rfl ho d kk
theorem qp_X5_179 (F : hF p l s m args meth c cc nL Ts RX5 g) (ho : isO S a 5) (d : decode cc pc = .ok (.putfield 179, 3)) (kk : V p l e R s m args below meth c nL g X Q (uF S 90 a x) cells slots lv (pc + 3) st) : V p l e R s m args below meth c nL g X Q S cells slots lv pc (.int x :: .ref a :: st) :=
  q_putG F (ci := 5) (k := 30) (C := RX5) (T := TX5) (N := 32) rfl inlX5 tyX5_ok nmX5 (by decide) (List.mem_of_getElem? (i := 382) (by decide +kernel)) rfl (tyX5_ok 30 (by decide)) rfl rfl rfl (Nat.le_of_ble_eq_true rfl) (by rw [hE_k (show sK (uF S 90 a x) a = 5 from ho.2)]; simp [hC, sF_uF, sR_uF]) (fun b hb => hE_uF S 90 a _ hb) rfl ho d kk
theorem qp_X5_182 (F : hF p l s m args meth c cc nL Ts RX5 g) (ho : isO S a 5) (d : decode cc pc = .ok (.putfield 182, 3)) (kk : V p l e R s m args below meth c nL g X Q (uF S 91 a x) cells slots lv (pc + 3) st) : V p l e R s m args below meth c nL g X Q S cells slots lv pc (.int x :: .ref a :: st) :=
  q_putG F (ci := 5) (k := 31) (C := RX5) (T := TX5) (N := 32) rfl inlX5 tyX5_ok nmX5 (by decide) (List.mem_of_getElem? (i := 383) (by decide +kernel)) rfl (tyX5_ok 31 (by decide)) rfl rfl rfl (Nat.le_of_ble_eq_true rfl) (by rw [hE_k (show sK (uF S 91 a x) a = 5 from ho.2)]; simp [hC, sF_uF, sR_uF]) (fun b hb => hE_uF S 91 a _ hb) rfl ho d kk
theorem qg_X5_81 (F : hF p l s m args meth c cc nL Ts RX5 g) (ho : isO S a 5) (d : decode cc pc = .ok (.getfield 81, 3)) (kk : V p l e R s m args below meth c nL g X Q S cells slots lv (pc + 3) (.int (sF S 89 a) :: st)) : V p l e R s m args below meth c nL g X Q S cells slots lv pc (.ref a :: st) :=
  q_getG F (ci := 5) (k := 29) (C := RX5) (T := TX5) (N := 32) rfl inlX5 (by decide) (List.mem_of_getElem? (i := 57) (by decide +kernel)) rfl rfl ho d kk
theorem qg_X5_179 (F : hF p l s m args meth c cc nL Ts RX5 g) (ho : isO S a 5) (d : decode cc pc = .ok (.getfield 179, 3)) (kk : V p l e R s m args below meth c nL g X Q S cells slots lv (pc + 3) (.int (sF S 90 a) :: st)) : V p l e R s m args below meth c nL g X Q S cells slots lv pc (.ref a :: st) :=
  q_getG F (ci := 5) (k := 30) (C := RX5) (T := TX5) (N := 32) rfl inlX5 (by decide) (List.mem_of_getElem? (i := 382) (by decide +kernel)) rfl rfl ho d kk
theorem qg_X5_182 (F : hF p l s m args meth c cc nL Ts RX5 g) (ho : isO S a 5) (d : decode cc pc = .ok (.getfield 182, 3)) (kk : V p l e R s m args below meth c nL g X Q S cells slots lv (pc + 3) (.int (sF S 91 a) :: st)) : V p l e R s m args below meth c nL g X Q S cells slots lv pc (.ref a :: st) :=
  q_getG F (ci := 5) (k := 31) (C := RX5) (T := TX5) (N := 32) rfl inlX5 (by decide) (List.mem_of_getElem? (i := 383) (by decide +kernel)) rfl rfl ho d kk
theorem qp_X5_101 (F : hF p l s m args meth c cc nL Ts RX5 g) (ho : isO S a 5) (d : decode cc pc = .ok (.putfield 101, 3)) (kk : V p l e R s m args below meth c nL g X Q (uF S 61 a x) cells slots lv (pc + 3) st) : V p l e R s m args below meth c nL g X Q S cells slots lv pc (.int x :: .ref a :: st) :=
  q_putG F (ci := 5) (k := 1) (C := RX5) (T := TX5) (N := 32) rfl inlX5 tyX5_ok nmX5 (by decide) (List.mem_of_getElem? (i := 117) (by decide +kernel)) rfl (tyX5_ok 1 (by decide)) rfl rfl rfl (Nat.le_of_ble_eq_true rfl) (by rw [hE_k (show sK (uF S 61 a x) a = 5 from ho.2)]; simp [hC, sF_uF, sR_uF]) (fun b hb => hE_uF S 61 a _ hb) rfl ho d kk
theorem qp_X0_7 (F : hF p l s m args meth c cc nL Ts RX0 g) (hin2 : meth.name = "<init>") (ho : isO S a 0) (d : decode cc pc = .ok (.putfield 7, 3)) (kk : V p l e R s m args below meth c nL g X Q (uF S 0 a x) cells slots lv (pc + 3) st) : V p l e R s m args below meth c nL g X Q S cells slots lv pc (.int x :: .ref a :: st) :=
  q_putFG F (ci := 0) (k := 0) (C := RX0) (T := TX0) (N := 7) rfl inlX0 tyX0_ok nmX0 (by decide) (List.mem_of_getElem? (i := 237) (by decide +kernel)) rfl hin2 rfl (tyX0_ok 0 (by decide)) rfl rfl rfl (Nat.le_of_ble_eq_true rfl) (by rw [hE_k (show sK (uF S 0 a x) a = 0 from ho.2)]; simp [hC, sF_uF, sR_uF]) (fun b hb => hE_uF S 0 a _ hb) rfl ho d kk
theorem qp_X0_13 (F : hF p l s m args meth c cc nL Ts RX0 g) (hin2 : meth.name = "<init>") (ho : isO S a 0) (d : decode cc pc = .ok (.putfield 13, 3)) (kk : V p l e R s m args below meth c nL g X Q (uF S 1 a x) cells slots lv (pc + 3) st) : V p l e R s m args below meth c nL g X Q S cells slots lv pc (.int x :: .ref a :: st) :=
  q_putFG F (ci := 0) (k := 1) (C := RX0) (T := TX0) (N := 7) rfl inlX0 tyX0_ok nmX0 (by decide) (List.mem_of_getElem? (i := 238) (by decide +kernel)) rfl hin2 rfl (tyX0_ok 1 (by decide)) rfl rfl rfl (Nat.le_of_ble_eq_true rfl) (by rw [hE_k (show sK (uF S 1 a x) a = 0 from ho.2)]; simp [hC, sF_uF, sR_uF]) (fun b hb => hE_uF S 1 a _ hb) rfl ho d kk
theorem qp_X0_16 (F : hF p l s m args meth c cc nL Ts RX0 g) (hin2 : meth.name = "<init>") (ho : isO S a 0) (d : decode cc pc = .ok (.putfield 16, 3)) (kk : V p l e R s m args below meth c nL g X Q (uF S 2 a x) cells slots lv (pc + 3) st) : V p l e R s m args below meth c nL g X Q S cells slots lv pc (.int x :: .ref a :: st) :=
  q_putFG F (ci := 0) (k := 2) (C := RX0) (T := TX0) (N := 7) rfl inlX0 tyX0_ok nmX0 (by decide) (List.mem_of_getElem? (i := 239) (by decide +kernel)) rfl hin2 rfl (tyX0_ok 2 (by decide)) rfl rfl rfl (Nat.le_of_ble_eq_true rfl) (by rw [hE_k (show sK (uF S 2 a x) a = 0 from ho.2)]; simp [hC, sF_uF, sR_uF]) (fun b hb => hE_uF S 2 a _ hb) rfl ho d kk
theorem qp_X0_19 (F : hF p l s m args meth c cc nL Ts RX0 g) (hin2 : meth.name = "<init>") (ho : isO S a 0) (d : decode cc pc = .ok (.putfield 19, 3)) (kk : V p l e R s m args below meth c nL g X Q (uF S 3 a x) cells slots lv (pc + 3) st) : V p l e R s m args below meth c nL g X Q S cells slots lv pc (.int x :: .ref a :: st) :=
  q_putFG F (ci := 0) (k := 3) (C := RX0) (T := TX0) (N := 7) rfl inlX0 tyX0_ok nmX0 (by decide) (List.mem_of_getElem? (i := 240) (by decide +kernel)) rfl hin2 rfl (tyX0_ok 3 (by decide)) rfl rfl rfl (Nat.le_of_ble_eq_true rfl) (by rw [hE_k (show sK (uF S 3 a x) a = 0 from ho.2)]; simp [hC, sF_uF, sR_uF]) (fun b hb => hE_uF S 3 a _ hb) rfl ho d kk
theorem qp_X0_22 (F : hF p l s m args meth c cc nL Ts RX0 g) (hin2 : meth.name = "<init>") (ho : isO S a 0) (d : decode cc pc = .ok (.putfield 22, 3)) (kk : V p l e R s m args below meth c nL g X Q (uF S 4 a x) cells slots lv (pc + 3) st) : V p l e R s m args below meth c nL g X Q S cells slots lv pc (.int x :: .ref a :: st) :=
  q_putFG F (ci := 0) (k := 4) (C := RX0) (T := TX0) (N := 7) rfl inlX0 tyX0_ok nmX0 (by decide) (List.mem_of_getElem? (i := 241) (by decide +kernel)) rfl hin2 rfl (tyX0_ok 4 (by decide)) rfl rfl rfl (Nat.le_of_ble_eq_true rfl) (by rw [hE_k (show sK (uF S 4 a x) a = 0 from ho.2)]; simp [hC, sF_uF, sR_uF]) (fun b hb => hE_uF S 4 a _ hb) rfl ho d kk
theorem qp_X0_25 (F : hF p l s m args meth c cc nL Ts RX0 g) (hin2 : meth.name = "<init>") (ho : isO S a 0) (d : decode cc pc = .ok (.putfield 25, 3)) (kk : V p l e R s m args below meth c nL g X Q (uF S 5 a x) cells slots lv (pc + 3) st) : V p l e R s m args below meth c nL g X Q S cells slots lv pc (.int x :: .ref a :: st) :=
  q_putFG F (ci := 0) (k := 5) (C := RX0) (T := TX0) (N := 7) rfl inlX0 tyX0_ok nmX0 (by decide) (List.mem_of_getElem? (i := 242) (by decide +kernel)) rfl hin2 rfl (tyX0_ok 5 (by decide)) rfl rfl rfl (Nat.le_of_ble_eq_true rfl) (by rw [hE_k (show sK (uF S 5 a x) a = 0 from ho.2)]; simp [hC, sF_uF, sR_uF]) (fun b hb => hE_uF S 5 a _ hb) rfl ho d kk
theorem qp_X0_28 (F : hF p l s m args meth c cc nL Ts RX0 g) (hin2 : meth.name = "<init>") (ho : isO S a 0) (d : decode cc pc = .ok (.putfield 28, 3)) (kk : V p l e R s m args below meth c nL g X Q (uF S 6 a x) cells slots lv (pc + 3) st) : V p l e R s m args below meth c nL g X Q S cells slots lv pc (.int x :: .ref a :: st) :=
  q_putFG F (ci := 0) (k := 6) (C := RX0) (T := TX0) (N := 7) rfl inlX0 tyX0_ok nmX0 (by decide) (List.mem_of_getElem? (i := 243) (by decide +kernel)) rfl hin2 rfl (tyX0_ok 6 (by decide)) rfl rfl rfl (Nat.le_of_ble_eq_true rfl) (by rw [hE_k (show sK (uF S 6 a x) a = 0 from ho.2)]; simp [hC, sF_uF, sR_uF]) (fun b hb => hE_uF S 6 a _ hb) rfl ho d kk
theorem qp_X1_11 (F : hF p l s m args meth c cc nL Ts RX1 g) (hin2 : meth.name = "<init>") (ho : isO S a 1) (d : decode cc pc = .ok (.putfield 11, 3)) (kk : V p l e R s m args below meth c nL g X Q (uR S 14 a (some b)) cells slots lv (pc + 3) st) : V p l e R s m args below meth c nL g X Q S cells slots lv pc (.ref b :: .ref a :: st) :=
  q_putFG F (ci := 1) (k := 4) (C := RX1) (T := TX1) (N := 10) rfl inlX1 tyX1_ok nmX1 (by decide) (List.mem_of_getElem? (i := 27) (by decide +kernel)) rfl hin2 rfl (tyX1_ok 4 (by decide)) rfl rfl rfl (Nat.le_of_ble_eq_true rfl) (by rw [hE_k (show sK (uR S 14 a (some b)) a = 1 from ho.2)]; simp [hC, sR_uR, sF_uR, va_rf]) (fun b hb => hE_uR S 14 a _ hb) rfl ho d kk
theorem qp_X1_17 (F : hF p l s m args meth c cc nL Ts RX1 g) (ho : isO S a 1) (d : decode cc pc = .ok (.putfield 17, 3)) (kk : V p l e R s m args below meth c nL g X Q (uF S 10 a x) cells slots lv (pc + 3) st) : V p l e R s m args below meth c nL g X Q S cells slots lv pc (.int x :: .ref a :: st) :=
  q_putG F (ci := 1) (k := 0) (C := RX1) (T := TX1) (N := 10) rfl inlX1 tyX1_ok nmX1 (by decide) (List.mem_of_getElem? (i := 88) (by decide +kernel)) rfl (tyX1_ok 0 (by decide)) rfl rfl rfl (Nat.le_of_ble_eq_true rfl) (by rw [hE_k (show sK (uF S 10 a x) a = 1 from ho.2)]; simp [hC, sF_uF, sR_uF]) (fun b hb => hE_uF S 10 a _ hb) rfl ho d kk
theorem qp_X1_21 (F : hF p l s m args meth c cc nL Ts RX1 g) (ho : isO S a 1) (d : decode cc pc = .ok (.putfield 21, 3)) (kk : V p l e R s m args below meth c nL g X Q (uF S 11 a x) cells slots lv (pc + 3) st) : V p l e R s m args below meth c nL g X Q S cells slots lv pc (.int x :: .ref a :: st) :=
  q_putG F (ci := 1) (k := 1) (C := RX1) (T := TX1) (N := 10) rfl inlX1 tyX1_ok nmX1 (by decide) (List.mem_of_getElem? (i := 89) (by decide +kernel)) rfl (tyX1_ok 1 (by decide)) rfl rfl rfl (Nat.le_of_ble_eq_true rfl) (by rw [hE_k (show sK (uF S 11 a x) a = 1 from ho.2)]; simp [hC, sF_uF, sR_uF]) (fun b hb => hE_uF S 11 a _ hb) rfl ho d kk
theorem qp_X1_24 (F : hF p l s m args meth c cc nL Ts RX1 g) (ho : isO S a 1) (d : decode cc pc = .ok (.putfield 24, 3)) (kk : V p l e R s m args below meth c nL g X Q (uF S 12 a x) cells slots lv (pc + 3) st) : V p l e R s m args below meth c nL g X Q S cells slots lv pc (.int x :: .ref a :: st) :=
  q_putG F (ci := 1) (k := 2) (C := RX1) (T := TX1) (N := 10) rfl inlX1 tyX1_ok nmX1 (by decide) (List.mem_of_getElem? (i := 90) (by decide +kernel)) rfl (tyX1_ok 2 (by decide)) rfl rfl rfl (Nat.le_of_ble_eq_true rfl) (by rw [hE_k (show sK (uF S 12 a x) a = 1 from ho.2)]; simp [hC, sF_uF, sR_uF]) (fun b hb => hE_uF S 12 a _ hb) rfl ho d kk
theorem qp_X1_27 (F : hF p l s m args meth c cc nL Ts RX1 g) (ho : isO S a 1) (d : decode cc pc = .ok (.putfield 27, 3)) (kk : V p l e R s m args below meth c nL g X Q (uF S 13 a x) cells slots lv (pc + 3) st) : V p l e R s m args below meth c nL g X Q S cells slots lv pc (.int x :: .ref a :: st) :=
  q_putG F (ci := 1) (k := 3) (C := RX1) (T := TX1) (N := 10) rfl inlX1 tyX1_ok nmX1 (by decide) (List.mem_of_getElem? (i := 91) (by decide +kernel)) rfl (tyX1_ok 3 (by decide)) rfl rfl rfl (Nat.le_of_ble_eq_true rfl) (by rw [hE_k (show sK (uF S 13 a x) a = 1 from ho.2)]; simp [hC, sF_uF, sR_uF]) (fun b hb => hE_uF S 13 a _ hb) rfl ho d kk
theorem qp_X1_30 (F : hF p l s m args meth c cc nL Ts RX1 g) (ho : isO S a 1) (d : decode cc pc = .ok (.putfield 30, 3)) (kk : V p l e R s m args below meth c nL g X Q (uF S 15 a x) cells slots lv (pc + 3) st) : V p l e R s m args below meth c nL g X Q S cells slots lv pc (.int x :: .ref a :: st) :=
  q_putG F (ci := 1) (k := 5) (C := RX1) (T := TX1) (N := 10) rfl inlX1 tyX1_ok nmX1 (by decide) (List.mem_of_getElem? (i := 92) (by decide +kernel)) rfl (tyX1_ok 5 (by decide)) rfl rfl rfl (Nat.le_of_ble_eq_true rfl) (by rw [hE_k (show sK (uF S 15 a x) a = 1 from ho.2)]; simp [hC, sF_uF, sR_uF]) (fun b hb => hE_uF S 15 a _ hb) rfl ho d kk
theorem qp_X1_33 (F : hF p l s m args meth c cc nL Ts RX1 g) (hx : isB x) (ho : isO S a 1) (d : decode cc pc = .ok (.putfield 33, 3)) (kk : V p l e R s m args below meth c nL g X Q (uF S 16 a x) cells slots lv (pc + 3) st) : V p l e R s m args below meth c nL g X Q S cells slots lv pc (.int x :: .ref a :: st) :=
  q_putG F (ci := 1) (k := 6) (C := RX1) (T := TX1) (N := 10) rfl inlX1 tyX1_ok nmX1 (by decide) (List.mem_of_getElem? (i := 93) (by decide +kernel)) rfl (tyX1_ok 6 (by decide)) (isB_nar hx) (isB_fits hx) rfl (Nat.le_of_ble_eq_true rfl) (by rw [hE_k (show sK (uF S 16 a x) a = 1 from ho.2)]; simp [hC, sF_uF, sR_uF]) (fun b hb => hE_uF S 16 a _ hb) rfl ho d kk
theorem qg_X1_33 (F : hF p l s m args meth c cc nL Ts RX1 g) (ho : isO S a 1) (d : decode cc pc = .ok (.getfield 33, 3)) (kk : V p l e R s m args below meth c nL g X Q S cells slots lv (pc + 3) (.int (sF S 16 a) :: st)) : V p l e R s m args below meth c nL g X Q S cells slots lv pc (.ref a :: st) :=
  q_getG F (ci := 1) (k := 6) (C := RX1) (T := TX1) (N := 10) rfl inlX1 (by decide) (List.mem_of_getElem? (i := 93) (by decide +kernel)) rfl rfl ho d kk
theorem qg_X1_30 (F : hF p l s m args meth c cc nL Ts RX1 g) (ho : isO S a 1) (d : decode cc pc = .ok (.getfield 30, 3)) (kk : V p l e R s m args below meth c nL g X Q S cells slots lv (pc + 3) (.int (sF S 15 a) :: st)) : V p l e R s m args below meth c nL g X Q S cells slots lv pc (.ref a :: st) :=
  q_getG F (ci := 1) (k := 5) (C := RX1) (T := TX1) (N := 10) rfl inlX1 (by decide) (List.mem_of_getElem? (i := 92) (by decide +kernel)) rfl rfl ho d kk
theorem qg_X1_11 (F : hF p l s m args meth c cc nL Ts RX1 g) (hr : sR S 14 a = some b) (ho : isO S a 1) (d : decode cc pc = .ok (.getfield 11, 3)) (kk : V p l e R s m args below meth c nL g X Q S cells slots lv (pc + 3) (.ref b :: st)) : V p l e R s m args below meth c nL g X Q S cells slots lv pc (.ref a :: st) :=
  q_getG F (ci := 1) (k := 4) (C := RX1) (T := TX1) (N := 10) rfl inlX1 (by decide) (List.mem_of_getElem? (i := 27) (by decide +kernel)) rfl rfl ho d (v := va_rf (sR S 14 a)) (by rw [hr]; exact kk)
theorem qp_X1_51 (F : hF p l s m args meth c cc nL Ts RX1 g) (ho : isO S a 1) (d : decode cc pc = .ok (.putfield 51, 3)) (kk : V p l e R s m args below meth c nL g X Q (uF S 17 a x) cells slots lv (pc + 3) st) : V p l e R s m args below meth c nL g X Q S cells slots lv pc (.int x :: .ref a :: st) :=
  q_putG F (ci := 1) (k := 7) (C := RX1) (T := TX1) (N := 10) rfl inlX1 tyX1_ok nmX1 (by decide) (List.mem_of_getElem? (i := 183) (by decide +kernel)) rfl (tyX1_ok 7 (by decide)) rfl rfl rfl (Nat.le_of_ble_eq_true rfl) (by rw [hE_k (show sK (uF S 17 a x) a = 1 from ho.2)]; simp [hC, sF_uF, sR_uF]) (fun b hb => hE_uF S 17 a _ hb) rfl ho d kk
theorem qp_X1_54 (F : hF p l s m args meth c cc nL Ts RX1 g) (ho : isO S a 1) (d : decode cc pc = .ok (.putfield 54, 3)) (kk : V p l e R s m args below meth c nL g X Q (uF S 18 a x) cells slots lv (pc + 3) st) : V p l e R s m args below meth c nL g X Q S cells slots lv pc (.int x :: .ref a :: st) :=
  q_putG F (ci := 1) (k := 8) (C := RX1) (T := TX1) (N := 10) rfl inlX1 tyX1_ok nmX1 (by decide) (List.mem_of_getElem? (i := 184) (by decide +kernel)) rfl (tyX1_ok 8 (by decide)) rfl rfl rfl (Nat.le_of_ble_eq_true rfl) (by rw [hE_k (show sK (uF S 18 a x) a = 1 from ho.2)]; simp [hC, sF_uF, sR_uF]) (fun b hb => hE_uF S 18 a _ hb) rfl ho d kk
theorem qp_X1_57 (F : hF p l s m args meth c cc nL Ts RX1 g) (ho : isO S a 1) (d : decode cc pc = .ok (.putfield 57, 3)) (kk : V p l e R s m args below meth c nL g X Q (uF S 19 a x) cells slots lv (pc + 3) st) : V p l e R s m args below meth c nL g X Q S cells slots lv pc (.int x :: .ref a :: st) :=
  q_putG F (ci := 1) (k := 9) (C := RX1) (T := TX1) (N := 10) rfl inlX1 tyX1_ok nmX1 (by decide) (List.mem_of_getElem? (i := 185) (by decide +kernel)) rfl (tyX1_ok 9 (by decide)) rfl rfl rfl (Nat.le_of_ble_eq_true rfl) (by rw [hE_k (show sK (uF S 19 a x) a = 1 from ho.2)]; simp [hC, sF_uF, sR_uF]) (fun b hb => hE_uF S 19 a _ hb) rfl ho d kk
theorem qg_X1_51 (F : hF p l s m args meth c cc nL Ts RX1 g) (ho : isO S a 1) (d : decode cc pc = .ok (.getfield 51, 3)) (kk : V p l e R s m args below meth c nL g X Q S cells slots lv (pc + 3) (.int (sF S 17 a) :: st)) : V p l e R s m args below meth c nL g X Q S cells slots lv pc (.ref a :: st) :=
  q_getG F (ci := 1) (k := 7) (C := RX1) (T := TX1) (N := 10) rfl inlX1 (by decide) (List.mem_of_getElem? (i := 183) (by decide +kernel)) rfl rfl ho d kk
theorem qg_X1_54 (F : hF p l s m args meth c cc nL Ts RX1 g) (ho : isO S a 1) (d : decode cc pc = .ok (.getfield 54, 3)) (kk : V p l e R s m args below meth c nL g X Q S cells slots lv (pc + 3) (.int (sF S 18 a) :: st)) : V p l e R s m args below meth c nL g X Q S cells slots lv pc (.ref a :: st) :=
  q_getG F (ci := 1) (k := 8) (C := RX1) (T := TX1) (N := 10) rfl inlX1 (by decide) (List.mem_of_getElem? (i := 184) (by decide +kernel)) rfl rfl ho d kk
theorem qg_X1_57 (F : hF p l s m args meth c cc nL Ts RX1 g) (ho : isO S a 1) (d : decode cc pc = .ok (.getfield 57, 3)) (kk : V p l e R s m args below meth c nL g X Q S cells slots lv (pc + 3) (.int (sF S 19 a) :: st)) : V p l e R s m args below meth c nL g X Q S cells slots lv pc (.ref a :: st) :=
  q_getG F (ci := 1) (k := 9) (C := RX1) (T := TX1) (N := 10) rfl inlX1 (by decide) (List.mem_of_getElem? (i := 185) (by decide +kernel)) rfl rfl ho d kk
theorem qg_X1_27 (F : hF p l s m args meth c cc nL Ts RX1 g) (ho : isO S a 1) (d : decode cc pc = .ok (.getfield 27, 3)) (kk : V p l e R s m args below meth c nL g X Q S cells slots lv (pc + 3) (.int (sF S 13 a) :: st)) : V p l e R s m args below meth c nL g X Q S cells slots lv pc (.ref a :: st) :=
  q_getG F (ci := 1) (k := 3) (C := RX1) (T := TX1) (N := 10) rfl inlX1 (by decide) (List.mem_of_getElem? (i := 91) (by decide +kernel)) rfl rfl ho d kk
theorem qg_X1_21 (F : hF p l s m args meth c cc nL Ts RX1 g) (ho : isO S a 1) (d : decode cc pc = .ok (.getfield 21, 3)) (kk : V p l e R s m args below meth c nL g X Q S cells slots lv (pc + 3) (.int (sF S 11 a) :: st)) : V p l e R s m args below meth c nL g X Q S cells slots lv pc (.ref a :: st) :=
  q_getG F (ci := 1) (k := 1) (C := RX1) (T := TX1) (N := 10) rfl inlX1 (by decide) (List.mem_of_getElem? (i := 89) (by decide +kernel)) rfl rfl ho d kk
theorem qg_X1_64 (F : hF p l s m args meth c cc nL Ts RX1 g) (ho : isO S a 2) (d : decode cc pc = .ok (.getfield 64, 3)) (kk : V p l e R s m args below meth c nL g X Q S cells slots lv (pc + 3) (.int (sF S 23 a) :: st)) : V p l e R s m args below meth c nL g X Q S cells slots lv pc (.ref a :: st) :=
  q_getNG F (ci := 2) (k := 3) (C := RX2) (T := TX2) (N := 4) rfl inlX2 (by decide) (List.mem_of_getElem? (i := 4) rfl) rfl rfl ho d kk
theorem qp_X2_7 (F : hF p l s m args meth c cc nL Ts RX2 g) (hin2 : meth.name = "<init>") (ho : isO S a 2) (d : decode cc pc = .ok (.putfield 7, 3)) (kk : V p l e R s m args below meth c nL g X Q (uF S 20 a x) cells slots lv (pc + 3) st) : V p l e R s m args below meth c nL g X Q S cells slots lv pc (.int x :: .ref a :: st) :=
  q_putFG F (ci := 2) (k := 0) (C := RX2) (T := TX2) (N := 4) rfl inlX2 tyX2_ok nmX2 (by decide) (List.mem_of_getElem? (i := 150) (by decide +kernel)) rfl hin2 rfl (tyX2_ok 0 (by decide)) rfl rfl rfl (Nat.le_of_ble_eq_true rfl) (by rw [hE_k (show sK (uF S 20 a x) a = 2 from ho.2)]; simp [hC, sF_uF, sR_uF]) (fun b hb => hE_uF S 20 a _ hb) rfl ho d kk
theorem qp_X2_13 (F : hF p l s m args meth c cc nL Ts RX2 g) (hin2 : meth.name = "<init>") (ho : isO S a 2) (d : decode cc pc = .ok (.putfield 13, 3)) (kk : V p l e R s m args below meth c nL g X Q (uF S 21 a x) cells slots lv (pc + 3) st) : V p l e R s m args below meth c nL g X Q S cells slots lv pc (.int x :: .ref a :: st) :=
  q_putFG F (ci := 2) (k := 1) (C := RX2) (T := TX2) (N := 4) rfl inlX2 tyX2_ok nmX2 (by decide) (List.mem_of_getElem? (i := 151) (by decide +kernel)) rfl hin2 rfl (tyX2_ok 1 (by decide)) rfl rfl rfl (Nat.le_of_ble_eq_true rfl) (by rw [hE_k (show sK (uF S 21 a x) a = 2 from ho.2)]; simp [hC, sF_uF, sR_uF]) (fun b hb => hE_uF S 21 a _ hb) rfl ho d kk
theorem qp_X2_16 (F : hF p l s m args meth c cc nL Ts RX2 g) (hin2 : meth.name = "<init>") (ho : isO S a 2) (d : decode cc pc = .ok (.putfield 16, 3)) (kk : V p l e R s m args below meth c nL g X Q (uF S 22 a x) cells slots lv (pc + 3) st) : V p l e R s m args below meth c nL g X Q S cells slots lv pc (.int x :: .ref a :: st) :=
  q_putFG F (ci := 2) (k := 2) (C := RX2) (T := TX2) (N := 4) rfl inlX2 tyX2_ok nmX2 (by decide) (List.mem_of_getElem? (i := 152) (by decide +kernel)) rfl hin2 rfl (tyX2_ok 2 (by decide)) rfl rfl rfl (Nat.le_of_ble_eq_true rfl) (by rw [hE_k (show sK (uF S 22 a x) a = 2 from ho.2)]; simp [hC, sF_uF, sR_uF]) (fun b hb => hE_uF S 22 a _ hb) rfl ho d kk
theorem qp_X2_19 (F : hF p l s m args meth c cc nL Ts RX2 g) (hin2 : meth.name = "<init>") (hx : isB x) (ho : isO S a 2) (d : decode cc pc = .ok (.putfield 19, 3)) (kk : V p l e R s m args below meth c nL g X Q (uF S 23 a x) cells slots lv (pc + 3) st) : V p l e R s m args below meth c nL g X Q S cells slots lv pc (.int x :: .ref a :: st) :=
  q_putFG F (ci := 2) (k := 3) (C := RX2) (T := TX2) (N := 4) rfl inlX2 tyX2_ok nmX2 (by decide) (List.mem_of_getElem? (i := 153) (by decide +kernel)) rfl hin2 rfl (tyX2_ok 3 (by decide)) (isB_nar hx) (isB_fits hx) rfl (Nat.le_of_ble_eq_true rfl) (by rw [hE_k (show sK (uF S 23 a x) a = 2 from ho.2)]; simp [hC, sF_uF, sR_uF]) (fun b hb => hE_uF S 23 a _ hb) rfl ho d kk
theorem qg_X2_16 (F : hF p l s m args meth c cc nL Ts RX2 g) (ho : isO S a 2) (d : decode cc pc = .ok (.getfield 16, 3)) (kk : V p l e R s m args below meth c nL g X Q S cells slots lv (pc + 3) (.int (sF S 22 a) :: st)) : V p l e R s m args below meth c nL g X Q S cells slots lv pc (.ref a :: st) :=
  q_getG F (ci := 2) (k := 2) (C := RX2) (T := TX2) (N := 4) rfl inlX2 (by decide) (List.mem_of_getElem? (i := 152) (by decide +kernel)) rfl rfl ho d kk
theorem qg_X2_13 (F : hF p l s m args meth c cc nL Ts RX2 g) (ho : isO S a 2) (d : decode cc pc = .ok (.getfield 13, 3)) (kk : V p l e R s m args below meth c nL g X Q S cells slots lv (pc + 3) (.int (sF S 21 a) :: st)) : V p l e R s m args below meth c nL g X Q S cells slots lv pc (.ref a :: st) :=
  q_getG F (ci := 2) (k := 1) (C := RX2) (T := TX2) (N := 4) rfl inlX2 (by decide) (List.mem_of_getElem? (i := 151) (by decide +kernel)) rfl rfl ho d kk
theorem qg_X2_7 (F : hF p l s m args meth c cc nL Ts RX2 g) (ho : isO S a 2) (d : decode cc pc = .ok (.getfield 7, 3)) (kk : V p l e R s m args below meth c nL g X Q S cells slots lv (pc + 3) (.int (sF S 20 a) :: st)) : V p l e R s m args below meth c nL g X Q S cells slots lv pc (.ref a :: st) :=
  q_getG F (ci := 2) (k := 0) (C := RX2) (T := TX2) (N := 4) rfl inlX2 (by decide) (List.mem_of_getElem? (i := 150) (by decide +kernel)) rfl rfl ho d kk
theorem qp_X3_7 (F : hF p l s m args meth c cc nL Ts RX3 g) (hin2 : meth.name = "<init>") (ho : isO S a 3) (d : decode cc pc = .ok (.putfield 7, 3)) (kk : V p l e R s m args below meth c nL g X Q (uF S 30 a x) cells slots lv (pc + 3) st) : V p l e R s m args below meth c nL g X Q S cells slots lv pc (.int x :: .ref a :: st) :=
  q_putFG F (ci := 3) (k := 0) (C := RX3) (T := TX3) (N := 3) rfl inlX3 tyX3_ok nmX3 (by decide) (List.mem_of_getElem? (i := 263) (by decide +kernel)) rfl hin2 rfl (tyX3_ok 0 (by decide)) rfl rfl rfl (Nat.le_of_ble_eq_true rfl) (by rw [hE_k (show sK (uF S 30 a x) a = 3 from ho.2)]; simp [hC, sF_uF, sR_uF]) (fun b hb => hE_uF S 30 a _ hb) rfl ho d kk
theorem qp_X3_13 (F : hF p l s m args meth c cc nL Ts RX3 g) (hin2 : meth.name = "<init>") (ho : isO S a 3) (d : decode cc pc = .ok (.putfield 13, 3)) (kk : V p l e R s m args below meth c nL g X Q (uF S 31 a x) cells slots lv (pc + 3) st) : V p l e R s m args below meth c nL g X Q S cells slots lv pc (.int x :: .ref a :: st) :=
  q_putFG F (ci := 3) (k := 1) (C := RX3) (T := TX3) (N := 3) rfl inlX3 tyX3_ok nmX3 (by decide) (List.mem_of_getElem? (i := 264) (by decide +kernel)) rfl hin2 rfl (tyX3_ok 1 (by decide)) rfl rfl rfl (Nat.le_of_ble_eq_true rfl) (by rw [hE_k (show sK (uF S 31 a x) a = 3 from ho.2)]; simp [hC, sF_uF, sR_uF]) (fun b hb => hE_uF S 31 a _ hb) rfl ho d kk
theorem qp_X3_16 (F : hF p l s m args meth c cc nL Ts RX3 g) (hin2 : meth.name = "<init>") (ho : isO S a 3) (d : decode cc pc = .ok (.putfield 16, 3)) (kk : V p l e R s m args below meth c nL g X Q (uF S 32 a x) cells slots lv (pc + 3) st) : V p l e R s m args below meth c nL g X Q S cells slots lv pc (.int x :: .ref a :: st) :=
  q_putFG F (ci := 3) (k := 2) (C := RX3) (T := TX3) (N := 3) rfl inlX3 tyX3_ok nmX3 (by decide) (List.mem_of_getElem? (i := 265) (by decide +kernel)) rfl hin2 rfl (tyX3_ok 2 (by decide)) rfl rfl rfl (Nat.le_of_ble_eq_true rfl) (by rw [hE_k (show sK (uF S 32 a x) a = 3 from ho.2)]; simp [hC, sF_uF, sR_uF]) (fun b hb => hE_uF S 32 a _ hb) rfl ho d kk
theorem qg_X3_7 (F : hF p l s m args meth c cc nL Ts RX3 g) (ho : isO S a 3) (d : decode cc pc = .ok (.getfield 7, 3)) (kk : V p l e R s m args below meth c nL g X Q S cells slots lv (pc + 3) (.int (sF S 30 a) :: st)) : V p l e R s m args below meth c nL g X Q S cells slots lv pc (.ref a :: st) :=
  q_getG F (ci := 3) (k := 0) (C := RX3) (T := TX3) (N := 3) rfl inlX3 (by decide) (List.mem_of_getElem? (i := 263) (by decide +kernel)) rfl rfl ho d kk
theorem qg_X3_13 (F : hF p l s m args meth c cc nL Ts RX3 g) (ho : isO S a 3) (d : decode cc pc = .ok (.getfield 13, 3)) (kk : V p l e R s m args below meth c nL g X Q S cells slots lv (pc + 3) (.int (sF S 31 a) :: st)) : V p l e R s m args below meth c nL g X Q S cells slots lv pc (.ref a :: st) :=
  q_getG F (ci := 3) (k := 1) (C := RX3) (T := TX3) (N := 3) rfl inlX3 (by decide) (List.mem_of_getElem? (i := 264) (by decide +kernel)) rfl rfl ho d kk
theorem qg_X3_16 (F : hF p l s m args meth c cc nL Ts RX3 g) (ho : isO S a 3) (d : decode cc pc = .ok (.getfield 16, 3)) (kk : V p l e R s m args below meth c nL g X Q S cells slots lv (pc + 3) (.int (sF S 32 a) :: st)) : V p l e R s m args below meth c nL g X Q S cells slots lv pc (.ref a :: st) :=
  q_getG F (ci := 3) (k := 2) (C := RX3) (T := TX3) (N := 3) rfl inlX3 (by decide) (List.mem_of_getElem? (i := 265) (by decide +kernel)) rfl rfl ho d kk
theorem qan_X4_9 (F : hF p l s m args meth c cc nL Ts RX4 g) (hf : cells + 1 ≤ R.cells ∧ slots + 40 ≤ R.slots) (d : decode cc pc = .ok (.anewarray 9, 3)) (kk : ∀ q : Nat, q ∉ sL S → V p l e R s m args below meth c nL g X Q (nA S 9 q 40) (cells + 1) (slots + 40) lv (pc + 3) (.ref q :: st)) : V p l e R s m args below meth c nL g X Q S cells slots lv pc (.int 40 :: st) :=
  q_anewG F (C := RX1) (t0 := 3) (List.mem_of_getElem? (i := 13) (by decide +kernel)) (List.mem_of_getElem? (i := 1) rfl) rfl (by decide) (by decide) (by decide) (fun q => by rw [hE_k (show sK (nA S 9 q 40) q = 9 from va_up_self _ _ _)]; show (Sum.inl (g.2.1 3, va_up (sN S) q 40 q, Sum.inr (Sum.inr (Sum.inr (Sum.inr (va_up (sB S) q (fun _ => none) q))))) : va_E) = _; rw [va_up_self, va_up_self]) hf d kk
theorem qan_X4_15 (F : hF p l s m args meth c cc nL Ts RX4 g) (hf : cells + 1 ≤ R.cells ∧ slots + 20 ≤ R.slots) (d : decode cc pc = .ok (.anewarray 15, 3)) (kk : ∀ q : Nat, q ∉ sL S → V p l e R s m args below meth c nL g X Q (nA S 8 q 20) (cells + 1) (slots + 20) lv (pc + 3) (.ref q :: st)) : V p l e R s m args below meth c nL g X Q S cells slots lv pc (.int 20 :: st) :=
  q_anewG F (C := RX0) (t0 := 2) (List.mem_of_getElem? (i := 15) (by decide +kernel)) (List.mem_of_getElem? (i := 0) rfl) rfl (by decide) (by decide) (by decide) (fun q => by rw [hE_k (show sK (nA S 8 q 20) q = 8 from va_up_self _ _ _)]; show (Sum.inl (g.2.1 2, va_up (sN S) q 20 q, Sum.inr (Sum.inr (Sum.inr (Sum.inr (va_up (sB S) q (fun _ => none) q))))) : va_E) = _; rw [va_up_self, va_up_self]) hf d kk
theorem qan_X4_21 (F : hF p l s m args meth c cc nL Ts RX4 g) (hf : cells + 1 ≤ R.cells ∧ slots + 20 ≤ R.slots) (d : decode cc pc = .ok (.anewarray 21, 3)) (kk : ∀ q : Nat, q ∉ sL S → V p l e R s m args below meth c nL g X Q (nA S 11 q 20) (cells + 1) (slots + 20) lv (pc + 3) (.ref q :: st)) : V p l e R s m args below meth c nL g X Q S cells slots lv pc (.int 20 :: st) :=
  q_anewG F (C := RX3) (t0 := 5) (List.mem_of_getElem? (i := 17) (by decide +kernel)) (List.mem_of_getElem? (i := 3) rfl) rfl (by decide) (by decide) (by decide) (fun q => by rw [hE_k (show sK (nA S 11 q 20) q = 11 from va_up_self _ _ _)]; show (Sum.inl (g.2.1 5, va_up (sN S) q 20 q, Sum.inr (Sum.inr (Sum.inr (Sum.inr (va_up (sB S) q (fun _ => none) q))))) : va_E) = _; rw [va_up_self, va_up_self]) hf d kk
theorem qn_X4_9 (F : hF p l s m args meth c cc nL Ts RX4 g) (hf : cells + 1 ≤ R.cells ∧ slots + 10 ≤ R.slots) (d : decode cc pc = .ok (.new 9, 3)) (kk : ∀ q : Nat, q ∉ sL S → V p l e R s m args below meth c nL g X Q (nO S 1 q) (cells + 1) (slots + 10) lv (pc + 3) (.ref q :: st)) : V p l e R s m args below meth c nL g X Q S cells slots lv pc st :=
  q_newG F (ci := 1) (C := RX1) (T := TX1) (N := 10) (fs := [.int 0, .int 0, .int 0, .int 0, .null, .int 0, .int 0, .int 0, .int 0, .int 0]) rfl inlX1 tyX1_ok (List.mem_of_getElem? (i := 13) (by decide +kernel)) (List.mem_of_getElem? (i := 21) (by decide +kernel)) (List.mem_of_getElem? (i := 22) (by decide +kernel)) (fun j hj => by rcases (show j = 0 ∨ j = 1 ∨ j = 2 ∨ j = 3 ∨ j = 4 ∨ j = 5 ∨ j = 6 ∨ j = 7 ∨ j = 8 ∨ j = 9 by omega) with rfl | rfl | rfl | rfl | rfl | rfl | rfl | rfl | rfl | rfl <;> rfl) (fun q => by rw [hE_k (show sK (nO S 1 q) q = 1 from va_up_self _ _ _)]; simp [hC, sF_nO, sR_nO, va_rf]) hf d kk
theorem qn_X4_15 (F : hF p l s m args meth c cc nL Ts RX4 g) (hf : cells + 1 ≤ R.cells ∧ slots + 7 ≤ R.slots) (d : decode cc pc = .ok (.new 15, 3)) (kk : ∀ q : Nat, q ∉ sL S → V p l e R s m args below meth c nL g X Q (nO S 0 q) (cells + 1) (slots + 7) lv (pc + 3) (.ref q :: st)) : V p l e R s m args below meth c nL g X Q S cells slots lv pc st :=
  q_newG F (ci := 0) (C := RX0) (T := TX0) (N := 7) (fs := [.int 0, .int 0, .int 0, .int 0, .int 0, .int 0, .int 0]) rfl inlX0 tyX0_ok (List.mem_of_getElem? (i := 15) (by decide +kernel)) (List.mem_of_getElem? (i := 231) (by decide +kernel)) (List.mem_of_getElem? (i := 232) (by decide +kernel)) (fun j hj => by rcases (show j = 0 ∨ j = 1 ∨ j = 2 ∨ j = 3 ∨ j = 4 ∨ j = 5 ∨ j = 6 by omega) with rfl | rfl | rfl | rfl | rfl | rfl | rfl <;> rfl) (fun q => by rw [hE_k (show sK (nO S 0 q) q = 0 from va_up_self _ _ _)]; simp [hC, sF_nO, sR_nO, va_rf]) hf d kk
theorem qn_X4_21 (F : hF p l s m args meth c cc nL Ts RX4 g) (hf : cells + 1 ≤ R.cells ∧ slots + 3 ≤ R.slots) (d : decode cc pc = .ok (.new 21, 3)) (kk : ∀ q : Nat, q ∉ sL S → V p l e R s m args below meth c nL g X Q (nO S 3 q) (cells + 1) (slots + 3) lv (pc + 3) (.ref q :: st)) : V p l e R s m args below meth c nL g X Q S cells slots lv pc st :=
  q_newG F (ci := 3) (C := RX3) (T := TX3) (N := 3) (fs := [.int 0, .int 0, .int 0]) rfl inlX3 tyX3_ok (List.mem_of_getElem? (i := 17) (by decide +kernel)) (List.mem_of_getElem? (i := 257) (by decide +kernel)) (List.mem_of_getElem? (i := 258) (by decide +kernel)) (fun j hj => by rcases (show j = 0 ∨ j = 1 ∨ j = 2 by omega) with rfl | rfl | rfl <;> rfl) (fun q => by rw [hE_k (show sK (nO S 3 q) q = 3 from va_up_self _ _ _)]; simp [hC, sF_nO, sR_nO, va_rf]) hf d kk
theorem qan_X1_9 (F : hF p l s m args meth c cc nL Ts RX1 g) (hf : cells + 1 ≤ R.cells ∧ slots + 4 ≤ R.slots) (d : decode cc pc = .ok (.anewarray 9, 3)) (kk : ∀ q : Nat, q ∉ sL S → V p l e R s m args below meth c nL g X Q (nA S 10 q 4) (cells + 1) (slots + 4) lv (pc + 3) (.ref q :: st)) : V p l e R s m args below meth c nL g X Q S cells slots lv pc (.int 4 :: st) :=
  q_anewG F (C := RX2) (t0 := 4) (List.mem_of_getElem? (i := 26) (by decide +kernel)) (List.mem_of_getElem? (i := 2) rfl) rfl (by decide) (by decide) (by decide) (fun q => by rw [hE_k (show sK (nA S 10 q 4) q = 10 from va_up_self _ _ _)]; show (Sum.inl (g.2.1 4, va_up (sN S) q 4 q, Sum.inr (Sum.inr (Sum.inr (Sum.inr (va_up (sB S) q (fun _ => none) q))))) : va_E) = _; rw [va_up_self, va_up_self]) hf d kk
theorem qn_X1_9 (F : hF p l s m args meth c cc nL Ts RX1 g) (hf : cells + 1 ≤ R.cells ∧ slots + 4 ≤ R.slots) (d : decode cc pc = .ok (.new 9, 3)) (kk : ∀ q : Nat, q ∉ sL S → V p l e R s m args below meth c nL g X Q (nO S 2 q) (cells + 1) (slots + 4) lv (pc + 3) (.ref q :: st)) : V p l e R s m args below meth c nL g X Q S cells slots lv pc st :=
  q_newG F (ci := 2) (C := RX2) (T := TX2) (N := 4) (fs := [.int 0, .int 0, .int 0, .int 0]) rfl inlX2 tyX2_ok (List.mem_of_getElem? (i := 26) (by decide +kernel)) (List.mem_of_getElem? (i := 144) (by decide +kernel)) (List.mem_of_getElem? (i := 145) (by decide +kernel)) (fun j hj => by rcases (show j = 0 ∨ j = 1 ∨ j = 2 ∨ j = 3 by omega) with rfl | rfl | rfl | rfl <;> rfl) (fun q => by rw [hE_k (show sK (nO S 2 q) q = 2 from va_up_self _ _ _)]; simp [hC, sF_nO, sR_nO, va_rf]) hf d kk
theorem qn_L_8 (F : hF p l s m args meth c cc nL Ts RL g) (hf : cells + 1 ≤ R.cells ∧ slots + 12 ≤ R.slots) (d : decode cc pc = .ok (.new 8, 3)) (kk : ∀ q : Nat, q ∉ sL S → V p l e R s m args below meth c nL g X Q (nO S 4 q) (cells + 1) (slots + 12) lv (pc + 3) (.ref q :: st)) : V p l e R s m args below meth c nL g X Q S cells slots lv pc st :=
  q_newG F (ci := 4) (C := RX4) (T := TX4) (N := 12) (fs := [.null, .int 0, .null, .int 0, .null, .int 0, .int 0, .int 0, .int 0, .int 0, .int 0, .int 0]) rfl inlX4 tyX4_ok (List.mem_of_getElem? (i := 0) (by decide +kernel)) (List.mem_of_getElem? (i := 1) (by decide +kernel)) (List.mem_of_getElem? (i := 2) (by decide +kernel)) (fun j hj => by rcases (show j = 0 ∨ j = 1 ∨ j = 2 ∨ j = 3 ∨ j = 4 ∨ j = 5 ∨ j = 6 ∨ j = 7 ∨ j = 8 ∨ j = 9 ∨ j = 10 ∨ j = 11 by omega) with rfl | rfl | rfl | rfl | rfl | rfl | rfl | rfl | rfl | rfl | rfl | rfl <;> rfl) (fun q => by rw [hE_k (show sK (nO S 4 q) q = 4 from va_up_self _ _ _)]; simp [hC, sF_nO, sR_nO, va_rf]) hf d kk
theorem qn_L_87 (F : hF p l s m args meth c cc nL Ts RL g) (hf : cells + 1 ≤ R.cells ∧ slots + 32 ≤ R.slots) (d : decode cc pc = .ok (.new 87, 3)) (kk : ∀ q : Nat, q ∉ sL S → V p l e R s m args below meth c nL g X Q (nO S 5 q) (cells + 1) (slots + 32) lv (pc + 3) (.ref q :: st)) : V p l e R s m args below meth c nL g X Q S cells slots lv pc st :=
  q_newG F (ci := 5) (C := RX5) (T := TX5) (N := 32) (fs := [.int 0, .int 0, .int 0, .int 0, .int 0, .null, .null, .null, .null, .null, .null, .null, .null, .null, .null, .null, .null, .int 0, .null, .null, .null, .null, .null, .null, .null, .int 0, .null, .null, .null, .int 0, .int 0, .int 0]) rfl inlX5 tyX5_ok (List.mem_of_getElem? (i := 3) (by decide +kernel)) (List.mem_of_getElem? (i := 4) (by decide +kernel)) (List.mem_of_getElem? (i := 5) (by decide +kernel)) (fun j hj => by rcases (show j = 0 ∨ j = 1 ∨ j = 2 ∨ j = 3 ∨ j = 4 ∨ j = 5 ∨ j = 6 ∨ j = 7 ∨ j = 8 ∨ j = 9 ∨ j = 10 ∨ j = 11 ∨ j = 12 ∨ j = 13 ∨ j = 14 ∨ j = 15 ∨ j = 16 ∨ j = 17 ∨ j = 18 ∨ j = 19 ∨ j = 20 ∨ j = 21 ∨ j = 22 ∨ j = 23 ∨ j = 24 ∨ j = 25 ∨ j = 26 ∨ j = 27 ∨ j = 28 ∨ j = 29 ∨ j = 30 ∨ j = 31 by omega) with rfl | rfl | rfl | rfl | rfl | rfl | rfl | rfl | rfl | rfl | rfl | rfl | rfl | rfl | rfl | rfl | rfl | rfl | rfl | rfl | rfl | rfl | rfl | rfl | rfl | rfl | rfl | rfl | rfl | rfl | rfl | rfl <;> rfl) (fun q => by rw [hE_k (show sK (nO S 5 q) q = 5 from va_up_self _ _ _)]; simp [hC, sF_nO, sR_nO, va_rf]) hf d kk
theorem qn_int_40 (F : hF p l s m args meth c cc nL Ts own g) (hf : cells + 1 ≤ R.cells ∧ slots + 40 ≤ R.slots) (d : decode cc pc = .ok (.newarray .int, 2)) (kk : ∀ q : Nat, q ∉ sL S → V p l e R s m args below meth c nL g X Q (nA S 6 q 40) (cells + 1) (slots + 40) lv (pc + 2) (.ref q :: st)) : V p l e R s m args below meth c nL g X Q S cells slots lv pc (.int 40 :: st) :=
  q_newaG F (atype := .int) (ty := .int) (t0 := 0) (List.mem_of_getElem? (i := 33) (by decide +kernel)) rfl rfl (fun cA => by rw [vp_cell_i]; rfl) (by decide) (by decide) (by decide) (fun q => by rw [hE_k (show sK (nA S 6 q 40) q = 6 from va_up_self _ _ _)]; show (Sum.inl (g.2.1 0, va_up (sN S) q 40 q, Sum.inl (va_up (sA S) q (fun _ => 0) q)) : va_E) = _; rw [va_up_self, va_up_self]) hf d kk
theorem qn_int_160 (F : hF p l s m args meth c cc nL Ts own g) (hf : cells + 1 ≤ R.cells ∧ slots + 160 ≤ R.slots) (d : decode cc pc = .ok (.newarray .int, 2)) (kk : ∀ q : Nat, q ∉ sL S → V p l e R s m args below meth c nL g X Q (nA S 6 q 160) (cells + 1) (slots + 160) lv (pc + 2) (.ref q :: st)) : V p l e R s m args below meth c nL g X Q S cells slots lv pc (.int 160 :: st) :=
  q_newaG F (atype := .int) (ty := .int) (t0 := 0) (List.mem_of_getElem? (i := 33) (by decide +kernel)) rfl rfl (fun cA => by rw [vp_cell_i]; rfl) (by decide) (by decide) (by decide) (fun q => by rw [hE_k (show sK (nA S 6 q 160) q = 6 from va_up_self _ _ _)]; show (Sum.inl (g.2.1 0, va_up (sN S) q 160 q, Sum.inl (va_up (sA S) q (fun _ => 0) q)) : va_E) = _; rw [va_up_self, va_up_self]) hf d kk
theorem qn_int_20 (F : hF p l s m args meth c cc nL Ts own g) (hf : cells + 1 ≤ R.cells ∧ slots + 20 ≤ R.slots) (d : decode cc pc = .ok (.newarray .int, 2)) (kk : ∀ q : Nat, q ∉ sL S → V p l e R s m args below meth c nL g X Q (nA S 6 q 20) (cells + 1) (slots + 20) lv (pc + 2) (.ref q :: st)) : V p l e R s m args below meth c nL g X Q S cells slots lv pc (.int 20 :: st) :=
  q_newaG F (atype := .int) (ty := .int) (t0 := 0) (List.mem_of_getElem? (i := 33) (by decide +kernel)) rfl rfl (fun cA => by rw [vp_cell_i]; rfl) (by decide) (by decide) (by decide) (fun q => by rw [hE_k (show sK (nA S 6 q 20) q = 6 from va_up_self _ _ _)]; show (Sum.inl (g.2.1 0, va_up (sN S) q 20 q, Sum.inl (va_up (sA S) q (fun _ => 0) q)) : va_E) = _; rw [va_up_self, va_up_self]) hf d kk
theorem qn_boolean_160 (F : hF p l s m args meth c cc nL Ts own g) (hf : cells + 1 ≤ R.cells ∧ slots + 160 ≤ R.slots) (d : decode cc pc = .ok (.newarray .boolean, 2)) (kk : ∀ q : Nat, q ∉ sL S → V p l e R s m args below meth c nL g X Q (nA S 7 q 160) (cells + 1) (slots + 160) lv (pc + 2) (.ref q :: st)) : V p l e R s m args below meth c nL g X Q S cells slots lv pc (.int 160 :: st) :=
  q_newaG F (atype := .boolean) (ty := .boolean) (t0 := 1) (List.mem_of_getElem? (i := 45) (by decide +kernel)) rfl rfl (fun cA => by rw [vp_cell_i]; rfl) (by decide) (by decide) (by decide) (fun q => by rw [hE_k (show sK (nA S 7 q 160) q = 7 from va_up_self _ _ _)]; show (Sum.inl (g.2.1 1, va_up (sN S) q 160 q, Sum.inl (va_up (sA S) q (fun _ => 0) q)) : va_E) = _; rw [va_up_self, va_up_self]) hf d kk
end HFld
end
section
/-! throwing, catching -/
def hBad (cls : String) : List Cond := [Cond.castable cls cls, Cond.declares ⟨"java/lang/RuntimeException", "<init>", "(Ljava/lang/String;)V"⟩, Cond.declares ⟨"java/lang/Exception", "<init>", "(Ljava/lang/String;)V"⟩, Cond.declares ⟨"java/lang/Throwable", "<init>", "(Ljava/lang/String;)V"⟩]
def hNames : List String := ["java/lang/RuntimeException", "java/lang/Exception"]
section HThrow
variable {p : Program} {l : Launch} {e : Env} {R : Room} {s : State} {m : MethodId} {args : Array Value} {below : List Frame} {meth : Method} {c : Code} {nL : Nat} {g : hG} {X : va_W} {Q : State → Prop} {S : hS} {cells slots : Nat} {lv : List (Nat × Value)} {pc : Nat} {st rest : List Value} {cc : ByteArray} {Ts : List Cond} {own : String}
variable {post : Option Value → hS → Prop} {px : String → hS → Prop} {mc ms : Nat}
theorem hw_kept {H H1 : Heap} (h : hw g X S H) (ho : ∀ q : Nat, q < H.size → H1[q]? = H[q]?) : hw g X S H1 := ⟨h.1.kept fun k q hq => ho q.1 (h.1 k q hq).lt, h.2⟩
theorem q_throwG {cls text : String} {ik is ic : Nat} (F : hF p l s m args meth c cc nL Ts own g) (hst : l.stackTraces = false) (ht : ∀ x ∈ c.exceptionTable.toList, False) (hcls : Bundle.fit cls = true)
    (hk1 : Cond.classLink own ik cls ∈ wsL_law) (hini : Cond.initialized cls ∈ wsL_law) (hE : cls ∈ hEx) (hstr : (own, is, text) ∈ hStr) (hat : ∀ w ∈ (vx_atS own ic cls hNames).filter goodWord, w ∈ wsL_law)
    (hbad : ∀ w ∈ (vx_atS own ic cls hNames).filter (fun w => !goodWord w), w ∈ hBad cls) (hot : (Cond.classLink own ik cls :: Cond.initialized cls :: vx_atS own ic cls hNames).all vx_ot = true)
    (d0 : decode cc pc = .ok (.new ik, 3)) (d3 : decode cc (pc + 3) = .ok (.dup, 1)) (d4 : decode cc (pc + 4) = .ok (.ldc is, 2)) (d6 : decode cc (pc + 6) = .ok (.invokespecial ic, 3)) (d9 : decode cc (pc + 9) = .ok (.athrow, 1))
    (hR : 6 ≤ R.frames ∧ (st.map fun v => v.category).sum + 82 ≤ R.locals) (hRc : cells + 1 ≤ R.cells ∧ slots + 6 ≤ R.slots) (hc : cells + 1 ≤ mc) (hs : slots + 6 ≤ ms) (h : px cls S) :
    V p l e R s m args below meth c nL g X (vx_MQ below (hQ g X post) (hXC g X px) args s mc ms (hA g)) S cells slots lv pc st := by
  intro H locs ls hw0 hS0 hl
  obtain ⟨sa, hsa⟩ := F.2.1.2.2.2.2.2.2.2.1 _ hstr
  refine vx_throwS (names := hNames) F.1.1 F.1.2.1 hst F.1.2.2.2.1 hcls (by decide +kernel) (hk_word F.2.1 hk1 args) (hk_word F.2.1 hini args) hsa ?_ (fun w hw => List.all_eq_true.mp hot w hw) F.2.1.2.1 F.2.1.2.2.1 hS0 (hl.1.trans F.1.2.2.1.symm) d0 d3 d4 d6 d9 (fun x hx => (ht x hx).elim) ?_ ?_ hRc.1 hRc.2 F.2.2.1 ?_ hS0.2.2 hc hs
  · exact vx_hat (B := hBad cls) (fun w hw => hk_word F.2.1 (hat w hw) args) hbad (vx_c (va_tabs rfl rfl (F.2.1.2.2.2.2.2.2.2.2.1 cls hE)) (vx_c (va_Nw.use rfl (F.2.1.2.2.2.2.2.2.2.2.2.2 _ (List.mem_of_getElem? (i := 0) rfl))) (vx_c (va_Nw.use rfl (F.2.1.2.2.2.2.2.2.2.2.2.2 _ (List.mem_of_getElem? (i := 1) rfl))) (vx_c (va_Nw.use rfl (F.2.1.2.2.2.2.2.2.2.2.2.2 _ (List.mem_of_getElem? (i := 2) rfl))) vx_n))))
  · show 2 + 3 < R.frames
    omega
  · show _ + (13 * (2 + 1) + 43) ≤ R.locals
    omega
  · intro t hal hz ho
    exact ⟨S, h, hw_kept hw0 ho, Nat.le_trans hS0.1 hz, fun q h1 h2 => (ho q (Nat.lt_of_lt_of_le h1 hS0.1)).trans (hS0.2.1 q h1 h2)⟩
/-- caught by the row x of this method's table -/
theorem q_catch {E name : String} (F : hF p l s m args meth c cc nL Ts own g) (pre : List ExceptionTableEntry) (x : ExceptionTableEntry) (suf : List ExceptionTableEntry) (hsplit : c.exceptionTable.toList = pre ++ x :: suf)
    (hpass : ∀ z ∈ pre, z.catchType ≠ 0 ∧ ∃ nm : String, Cond.classLink own z.catchType nm ∈ wsL_law ∧ nm ∈ hEx ∧ E ≠ nm) (hx : covers x pc = true) (h0 : x.catchType ≠ 0) (hlink : Cond.classLink own x.catchType E ∈ wsL_law) (hE : E ∈ hEx)
    (kk : ∀ q : Addr, V p l e R s m args below meth c nL g X Q S cells slots lv x.handlerPc [.ref q]) : VX p l e R s m args below meth c nL g X Q E S cells slots lv pc st := by
  intro H locs ls ce q hw0 hS0 hl h1 h2 h3
  refine vx_catch F.1.2.2.2.1 pre x suf hsplit (fun z hz => Or.inr ?_) hx h0 (hk_word F.2.1 hlink args) (va_tabs rfl rfl (F.2.1.2.2.2.2.2.2.2.2.1 E hE)) h1 h2 h3 (kk q H locs ls hw0 hS0 hl)
  obtain ⟨a1, nm, a2, a3, a4⟩ := hpass z hz
  exact ⟨a1, nm, hk_word F.2.1 a2 args, F.2.1.2.2.2.2.2.2.2.2.2.1 E hE nm a3 a4⟩
theorem h_startH {y : MethodName} {ws ws' : List Cond} {rm : Room} {av : List Value} {maxL : Nat} {ret : Option FieldType} {hh : List (Nat × Nat × Nat × Nat)}
    (hy : plainName y.cls = true) (hws : ws = Cond.codeWith y cc maxL ret hh :: ws') (hlen : (lg_sl av).length ≤ maxL)
    (body : ∀ (p : Program) (e : Env) (s : State) (m : MethodId) (args : Array Value) (below : List Frame) (meth : Method) (c : Code), hF p l s m args meth c cc maxL ws y.cls g → meth.sig.returnType = ret → c.exceptionTable.toList = tableOf hh →
      V p l e rm s m args below meth c maxL g X (vx_MQ below (hQ g X post) (hXC g X px) args s rm.cells rm.slots (hA g)) S 0 0 (lv_args 0 av) 0 []) : hMetX l y ws rm g X S av post px := by
  refine vx_ofWH (cc := cc) (maxL := maxL) (ret := ret) hy hws ?_
  intro p e s m args below meth c s₁ B hml hv
  obtain ⟨rfl, hz0, hwH, hkH⟩ := hv
  have hts := atoms_spec (ws := ws) B.pre
  have hF9 : hF p l s m av.toArray meth c cc maxL ws y.cls g := ⟨⟨B.exec, B.bytes, hml, findClass_of_methodNamed B.named, hts⟩, hkH, B.notSynchronized, hz0⟩
  rw [lg_entry_eq]
  exact body p e s m _ below meth c hF9 B.returns (vx_table (x := y) B (hts _ (by rw [hws]; exact List.mem_cons_self))) s.heap [] _ hwH va_S.rf (lv_entry av hlen)
theorem q_callSH {index n maxL : Nat} {y : MethodName} {bytes : ByteArray} {ret : Option FieldType} {ws ws' : List Cond} {rm : Room} {As st0 : List Value} {hh : List (Nat × Nat × Nat × Nat)} (F : hF p l s m args meth c cc nL Ts own g) (hM : hMetX l y ws rm g X S As post (fun _ _ => False)) (hG : GoodIn Ts (va_wsS own index y ws)) (hw1 : ws = Cond.codeWith y bytes maxL ret hh :: ws') (hd : y.cls ≠ "java/lang/invoke/MethodHandle" ∧ y.cls ≠ "java/lang/invoke/VarHandle" ∧ (parseMethodDescriptor y.desc).map (fun d => d.parameters.length) = some n) (hR : rm.frames + 1 ≤ R.frames ∧ 8 + (maxL + 11) + rm.locals ≤ R.locals) (hn : As.length = n) (hst : st0 = As.reverse ++ rest) (hr : (rest.map fun v => v.category).sum ≤ 8) (d : decode cc pc = .ok (.invokestatic index, 3)) (hf : cells + rm.cells ≤ R.cells ∧ slots + rm.slots ≤ R.slots)
    (kk : ∀ (v : Option Value) (S' : hS), post v S' → V p l e R s m args below meth c nL g X Q S' (cells + rm.cells) (slots + rm.slots) lv (pc + 3) (v.toList ++ rest)) : V p l e R s m args below meth c nL g X Q S cells slots lv pc st0 := by
  intro H locs ls hw0 hS0 hl
  subst hst
  exact h_callX (vx_runSX F.1 hM (vx_cwSW n F.1.2.2.2.2 hG hw1 rfl rfl hd hR) (h_preS F.2.2.2 F.2.1 hw0 hS0) rfl hn hl.1 rfl (lv_room hr) d hf) hS0 (fun E S' H1 locs1 ce q hp => hp.elim) (fun v S' H1 locs1 hp hw1 hS1 => kk v S' hp H1 locs1 ls hw1 hS1 hl)
end HThrow
theorem hat_4_133 : ∀ w ∈ (vx_atS RX4 133 "java/lang/IllegalArgumentException" hNames).filter goodWord, w ∈ wsL_law := fun _ h => List.mem_append_left _ (List.mem_append_left _ (List.mem_append_left _ (List.mem_append_right _ h)))
theorem hat_4_78 : ∀ w ∈ (vx_atS RX4 78 "java/lang/IllegalStateException" hNames).filter goodWord, w ∈ wsL_law := fun _ h => List.mem_append_left _ (List.mem_append_left _ (List.mem_append_right _ h))
theorem hat_4_174 : ∀ w ∈ (vx_atS RX4 174 "java/lang/IndexOutOfBoundsException" hNames).filter goodWord, w ∈ wsL_law := fun _ h => List.mem_append_left _ (List.mem_append_right _ h)
theorem hat_1_41 : ∀ w ∈ (vx_atS RX1 41 "java/lang/IllegalStateException" hNames).filter goodWord, w ∈ wsL_law := fun _ h => List.mem_append_right _ h
section HThrows
variable {p : Program} {l : Launch} {e : Env} {R : Room} {s : State} {m : MethodId} {args : Array Value} {below : List Frame} {meth : Method} {c : Code} {nL : Nat} {g : hG} {X : va_W} {Q : State → Prop} {S : hS} {cells slots : Nat} {lv : List (Nat × Value)} {pc : Nat} {st rest : List Value} {cc : ByteArray} {Ts : List Cond} {own : String}
variable {post : Option Value → hS → Prop} {px : String → hS → Prop} {mc ms : Nat}
theorem qt_X4_121 (F : hF p l s m args meth c cc nL Ts RX4 g) (hst : l.stackTraces = false) (ht : ∀ x ∈ c.exceptionTable.toList, False) (d0 : decode cc pc = .ok (.new 74, 3)) (d3 : decode cc (pc + 3) = .ok (.dup, 1)) (d4 : decode cc (pc + 4) = .ok (.ldc 121, 2)) (d6 : decode cc (pc + 6) = .ok (.invokespecial 78, 3)) (d9 : decode cc (pc + 9) = .ok (.athrow, 1))
    (hR : 6 ≤ R.frames ∧ (st.map fun v => v.category).sum + 82 ≤ R.locals) (hRc : cells + 1 ≤ R.cells ∧ slots + 6 ≤ R.slots) (hc : cells + 1 ≤ mc) (hs : slots + 6 ≤ ms) (h : px "java/lang/IllegalStateException" S) :
    V p l e R s m args below meth c nL g X (vx_MQ below (hQ g X post) (hXC g X px) args s mc ms (hA g)) S cells slots lv pc st :=
  q_throwG F hst ht (by decide +kernel) (List.mem_of_getElem? (i := 81) (by decide +kernel)) (List.mem_of_getElem? (i := 82) (by decide +kernel)) (by decide) (List.mem_of_getElem? (i := 0) rfl) hat_4_78 (by decide +kernel) (by decide +kernel) d0 d3 d4 d6 d9 hR hRc hc hs h
theorem qt_X4_131 (F : hF p l s m args meth c cc nL Ts RX4 g) (hst : l.stackTraces = false) (ht : ∀ x ∈ c.exceptionTable.toList, False) (d0 : decode cc pc = .ok (.new 129, 3)) (d3 : decode cc (pc + 3) = .ok (.dup, 1)) (d4 : decode cc (pc + 4) = .ok (.ldc 131, 2)) (d6 : decode cc (pc + 6) = .ok (.invokespecial 133, 3)) (d9 : decode cc (pc + 9) = .ok (.athrow, 1))
    (hR : 6 ≤ R.frames ∧ (st.map fun v => v.category).sum + 82 ≤ R.locals) (hRc : cells + 1 ≤ R.cells ∧ slots + 6 ≤ R.slots) (hc : cells + 1 ≤ mc) (hs : slots + 6 ≤ ms) (h : px "java/lang/IllegalArgumentException" S) :
    V p l e R s m args below meth c nL g X (vx_MQ below (hQ g X post) (hXC g X px) args s mc ms (hA g)) S cells slots lv pc st :=
  q_throwG F hst ht (by decide +kernel) (List.mem_of_getElem? (i := 72) (by decide +kernel)) (List.mem_of_getElem? (i := 73) (by decide +kernel)) (by decide) (List.mem_of_getElem? (i := 1) rfl) hat_4_133 (by decide +kernel) (by decide +kernel) d0 d3 d4 d6 d9 hR hRc hc hs h
theorem qt_X4_138 (F : hF p l s m args meth c cc nL Ts RX4 g) (hst : l.stackTraces = false) (ht : ∀ x ∈ c.exceptionTable.toList, False) (d0 : decode cc pc = .ok (.new 74, 3)) (d3 : decode cc (pc + 3) = .ok (.dup, 1)) (d4 : decode cc (pc + 4) = .ok (.ldc 138, 2)) (d6 : decode cc (pc + 6) = .ok (.invokespecial 78, 3)) (d9 : decode cc (pc + 9) = .ok (.athrow, 1))
    (hR : 6 ≤ R.frames ∧ (st.map fun v => v.category).sum + 82 ≤ R.locals) (hRc : cells + 1 ≤ R.cells ∧ slots + 6 ≤ R.slots) (hc : cells + 1 ≤ mc) (hs : slots + 6 ≤ ms) (h : px "java/lang/IllegalStateException" S) :
    V p l e R s m args below meth c nL g X (vx_MQ below (hQ g X post) (hXC g X px) args s mc ms (hA g)) S cells slots lv pc st :=
  q_throwG F hst ht (by decide +kernel) (List.mem_of_getElem? (i := 81) (by decide +kernel)) (List.mem_of_getElem? (i := 82) (by decide +kernel)) (by decide) (List.mem_of_getElem? (i := 2) rfl) hat_4_78 (by decide +kernel) (by decide +kernel) d0 d3 d4 d6 d9 hR hRc hc hs h
theorem qt_X4_140 (F : hF p l s m args meth c cc nL Ts RX4 g) (hst : l.stackTraces = false) (ht : ∀ x ∈ c.exceptionTable.toList, False) (d0 : decode cc pc = .ok (.new 74, 3)) (d3 : decode cc (pc + 3) = .ok (.dup, 1)) (d4 : decode cc (pc + 4) = .ok (.ldc 140, 2)) (d6 : decode cc (pc + 6) = .ok (.invokespecial 78, 3)) (d9 : decode cc (pc + 9) = .ok (.athrow, 1))
    (hR : 6 ≤ R.frames ∧ (st.map fun v => v.category).sum + 82 ≤ R.locals) (hRc : cells + 1 ≤ R.cells ∧ slots + 6 ≤ R.slots) (hc : cells + 1 ≤ mc) (hs : slots + 6 ≤ ms) (h : px "java/lang/IllegalStateException" S) :
    V p l e R s m args below meth c nL g X (vx_MQ below (hQ g X post) (hXC g X px) args s mc ms (hA g)) S cells slots lv pc st :=
  q_throwG F hst ht (by decide +kernel) (List.mem_of_getElem? (i := 81) (by decide +kernel)) (List.mem_of_getElem? (i := 82) (by decide +kernel)) (by decide) (List.mem_of_getElem? (i := 3) rfl) hat_4_78 (by decide +kernel) (by decide +kernel) d0 d3 d4 d6 d9 hR hRc hc hs h
theorem qt_X4_149 (F : hF p l s m args meth c cc nL Ts RX4 g) (hst : l.stackTraces = false) (ht : ∀ x ∈ c.exceptionTable.toList, False) (d0 : decode cc pc = .ok (.new 74, 3)) (d3 : decode cc (pc + 3) = .ok (.dup, 1)) (d4 : decode cc (pc + 4) = .ok (.ldc 149, 2)) (d6 : decode cc (pc + 6) = .ok (.invokespecial 78, 3)) (d9 : decode cc (pc + 9) = .ok (.athrow, 1))
    (hR : 6 ≤ R.frames ∧ (st.map fun v => v.category).sum + 82 ≤ R.locals) (hRc : cells + 1 ≤ R.cells ∧ slots + 6 ≤ R.slots) (hc : cells + 1 ≤ mc) (hs : slots + 6 ≤ ms) (h : px "java/lang/IllegalStateException" S) :
    V p l e R s m args below meth c nL g X (vx_MQ below (hQ g X post) (hXC g X px) args s mc ms (hA g)) S cells slots lv pc st :=
  q_throwG F hst ht (by decide +kernel) (List.mem_of_getElem? (i := 81) (by decide +kernel)) (List.mem_of_getElem? (i := 82) (by decide +kernel)) (by decide) (List.mem_of_getElem? (i := 4) rfl) hat_4_78 (by decide +kernel) (by decide +kernel) d0 d3 d4 d6 d9 hR hRc hc hs h
theorem qt_X4_168 (F : hF p l s m args meth c cc nL Ts RX4 g) (hst : l.stackTraces = false) (ht : ∀ x ∈ c.exceptionTable.toList, False) (d0 : decode cc pc = .ok (.new 129, 3)) (d3 : decode cc (pc + 3) = .ok (.dup, 1)) (d4 : decode cc (pc + 4) = .ok (.ldc 168, 2)) (d6 : decode cc (pc + 6) = .ok (.invokespecial 133, 3)) (d9 : decode cc (pc + 9) = .ok (.athrow, 1))
    (hR : 6 ≤ R.frames ∧ (st.map fun v => v.category).sum + 82 ≤ R.locals) (hRc : cells + 1 ≤ R.cells ∧ slots + 6 ≤ R.slots) (hc : cells + 1 ≤ mc) (hs : slots + 6 ≤ ms) (h : px "java/lang/IllegalArgumentException" S) :
    V p l e R s m args below meth c nL g X (vx_MQ below (hQ g X post) (hXC g X px) args s mc ms (hA g)) S cells slots lv pc st :=
  q_throwG F hst ht (by decide +kernel) (List.mem_of_getElem? (i := 72) (by decide +kernel)) (List.mem_of_getElem? (i := 73) (by decide +kernel)) (by decide) (List.mem_of_getElem? (i := 5) rfl) hat_4_133 (by decide +kernel) (by decide +kernel) d0 d3 d4 d6 d9 hR hRc hc hs h
theorem qt_X4_172 (F : hF p l s m args meth c cc nL Ts RX4 g) (hst : l.stackTraces = false) (ht : ∀ x ∈ c.exceptionTable.toList, False) (d0 : decode cc pc = .ok (.new 170, 3)) (d3 : decode cc (pc + 3) = .ok (.dup, 1)) (d4 : decode cc (pc + 4) = .ok (.ldc 172, 2)) (d6 : decode cc (pc + 6) = .ok (.invokespecial 174, 3)) (d9 : decode cc (pc + 9) = .ok (.athrow, 1))
    (hR : 6 ≤ R.frames ∧ (st.map fun v => v.category).sum + 82 ≤ R.locals) (hRc : cells + 1 ≤ R.cells ∧ slots + 6 ≤ R.slots) (hc : cells + 1 ≤ mc) (hs : slots + 6 ≤ ms) (h : px "java/lang/IndexOutOfBoundsException" S) :
    V p l e R s m args below meth c nL g X (vx_MQ below (hQ g X post) (hXC g X px) args s mc ms (hA g)) S cells slots lv pc st :=
  q_throwG F hst ht (by decide +kernel) (List.mem_of_getElem? (i := 134) (by decide +kernel)) (List.mem_of_getElem? (i := 135) (by decide +kernel)) (by decide) (List.mem_of_getElem? (i := 6) rfl) hat_4_174 (by decide +kernel) (by decide +kernel) d0 d3 d4 d6 d9 hR hRc hc hs h
theorem qt_X4_175 (F : hF p l s m args meth c cc nL Ts RX4 g) (hst : l.stackTraces = false) (ht : ∀ x ∈ c.exceptionTable.toList, False) (d0 : decode cc pc = .ok (.new 170, 3)) (d3 : decode cc (pc + 3) = .ok (.dup, 1)) (d4 : decode cc (pc + 4) = .ok (.ldc 175, 2)) (d6 : decode cc (pc + 6) = .ok (.invokespecial 174, 3)) (d9 : decode cc (pc + 9) = .ok (.athrow, 1))
    (hR : 6 ≤ R.frames ∧ (st.map fun v => v.category).sum + 82 ≤ R.locals) (hRc : cells + 1 ≤ R.cells ∧ slots + 6 ≤ R.slots) (hc : cells + 1 ≤ mc) (hs : slots + 6 ≤ ms) (h : px "java/lang/IndexOutOfBoundsException" S) :
    V p l e R s m args below meth c nL g X (vx_MQ below (hQ g X post) (hXC g X px) args s mc ms (hA g)) S cells slots lv pc st :=
  q_throwG F hst ht (by decide +kernel) (List.mem_of_getElem? (i := 134) (by decide +kernel)) (List.mem_of_getElem? (i := 135) (by decide +kernel)) (by decide) (List.mem_of_getElem? (i := 7) rfl) hat_4_174 (by decide +kernel) (by decide +kernel) d0 d3 d4 d6 d9 hR hRc hc hs h
theorem qt_X4_177 (F : hF p l s m args meth c cc nL Ts RX4 g) (hst : l.stackTraces = false) (ht : ∀ x ∈ c.exceptionTable.toList, False) (d0 : decode cc pc = .ok (.new 74, 3)) (d3 : decode cc (pc + 3) = .ok (.dup, 1)) (d4 : decode cc (pc + 4) = .ok (.ldc 177, 2)) (d6 : decode cc (pc + 6) = .ok (.invokespecial 78, 3)) (d9 : decode cc (pc + 9) = .ok (.athrow, 1))
    (hR : 6 ≤ R.frames ∧ (st.map fun v => v.category).sum + 82 ≤ R.locals) (hRc : cells + 1 ≤ R.cells ∧ slots + 6 ≤ R.slots) (hc : cells + 1 ≤ mc) (hs : slots + 6 ≤ ms) (h : px "java/lang/IllegalStateException" S) :
    V p l e R s m args below meth c nL g X (vx_MQ below (hQ g X post) (hXC g X px) args s mc ms (hA g)) S cells slots lv pc st :=
  q_throwG F hst ht (by decide +kernel) (List.mem_of_getElem? (i := 81) (by decide +kernel)) (List.mem_of_getElem? (i := 82) (by decide +kernel)) (by decide) (List.mem_of_getElem? (i := 8) rfl) hat_4_78 (by decide +kernel) (by decide +kernel) d0 d3 d4 d6 d9 hR hRc hc hs h
theorem qt_X4_76 (F : hF p l s m args meth c cc nL Ts RX4 g) (hst : l.stackTraces = false) (ht : ∀ x ∈ c.exceptionTable.toList, False) (d0 : decode cc pc = .ok (.new 74, 3)) (d3 : decode cc (pc + 3) = .ok (.dup, 1)) (d4 : decode cc (pc + 4) = .ok (.ldc 76, 2)) (d6 : decode cc (pc + 6) = .ok (.invokespecial 78, 3)) (d9 : decode cc (pc + 9) = .ok (.athrow, 1))
    (hR : 6 ≤ R.frames ∧ (st.map fun v => v.category).sum + 82 ≤ R.locals) (hRc : cells + 1 ≤ R.cells ∧ slots + 6 ≤ R.slots) (hc : cells + 1 ≤ mc) (hs : slots + 6 ≤ ms) (h : px "java/lang/IllegalStateException" S) :
    V p l e R s m args below meth c nL g X (vx_MQ below (hQ g X post) (hXC g X px) args s mc ms (hA g)) S cells slots lv pc st :=
  q_throwG F hst ht (by decide +kernel) (List.mem_of_getElem? (i := 81) (by decide +kernel)) (List.mem_of_getElem? (i := 82) (by decide +kernel)) (by decide) (List.mem_of_getElem? (i := 9) rfl) hat_4_78 (by decide +kernel) (by decide +kernel) d0 d3 d4 d6 d9 hR hRc hc hs h
theorem qt_X4_87 (F : hF p l s m args meth c cc nL Ts RX4 g) (hst : l.stackTraces = false) (ht : ∀ x ∈ c.exceptionTable.toList, False) (d0 : decode cc pc = .ok (.new 74, 3)) (d3 : decode cc (pc + 3) = .ok (.dup, 1)) (d4 : decode cc (pc + 4) = .ok (.ldc 87, 2)) (d6 : decode cc (pc + 6) = .ok (.invokespecial 78, 3)) (d9 : decode cc (pc + 9) = .ok (.athrow, 1))
    (hR : 6 ≤ R.frames ∧ (st.map fun v => v.category).sum + 82 ≤ R.locals) (hRc : cells + 1 ≤ R.cells ∧ slots + 6 ≤ R.slots) (hc : cells + 1 ≤ mc) (hs : slots + 6 ≤ ms) (h : px "java/lang/IllegalStateException" S) :
    V p l e R s m args below meth c nL g X (vx_MQ below (hQ g X post) (hXC g X px) args s mc ms (hA g)) S cells slots lv pc st :=
  q_throwG F hst ht (by decide +kernel) (List.mem_of_getElem? (i := 81) (by decide +kernel)) (List.mem_of_getElem? (i := 82) (by decide +kernel)) (by decide) (List.mem_of_getElem? (i := 10) rfl) hat_4_78 (by decide +kernel) (by decide +kernel) d0 d3 d4 d6 d9 hR hRc hc hs h
theorem qt_X1_39 (F : hF p l s m args meth c cc nL Ts RX1 g) (hst : l.stackTraces = false) (ht : ∀ x ∈ c.exceptionTable.toList, False) (d0 : decode cc pc = .ok (.new 37, 3)) (d3 : decode cc (pc + 3) = .ok (.dup, 1)) (d4 : decode cc (pc + 4) = .ok (.ldc 39, 2)) (d6 : decode cc (pc + 6) = .ok (.invokespecial 41, 3)) (d9 : decode cc (pc + 9) = .ok (.athrow, 1))
    (hR : 6 ≤ R.frames ∧ (st.map fun v => v.category).sum + 82 ≤ R.locals) (hRc : cells + 1 ≤ R.cells ∧ slots + 6 ≤ R.slots) (hc : cells + 1 ≤ mc) (hs : slots + 6 ≤ ms) (h : px "java/lang/IllegalStateException" S) :
    V p l e R s m args below meth c nL g X (vx_MQ below (hQ g X post) (hXC g X px) args s mc ms (hA g)) S cells slots lv pc st :=
  q_throwG F hst ht (by decide +kernel) (List.mem_of_getElem? (i := 143) (by decide +kernel)) (List.mem_of_getElem? (i := 82) (by decide +kernel)) (by decide) (List.mem_of_getElem? (i := 11) rfl) hat_1_41 (by decide +kernel) (by decide +kernel) d0 d3 d4 d6 d9 hR hRc hc hs h
end HThrows
end
section
/-! rooms of the methods; what their descriptors say; Object's constructor, Math.min -/
abbrev rm_X0_init : Room := { frames := 1, cells := 0, slots := 0, locals := 30 }
abbrev rm_X1_init : Room := { frames := 1, cells := 1, slots := 4, locals := 30 }
abbrev rm_X1_begin : Room := { frames := 0, cells := 0, slots := 0, locals := 0 }
abbrev rm_X1_takePattern : Room := { frames := 6, cells := 2, slots := 10, locals := 90 }
abbrev rm_X1_takeHash : Room := { frames := 1, cells := 0, slots := 0, locals := 21 }
abbrev rm_X1_takeMatching : Room := { frames := 0, cells := 0, slots := 0, locals := 0 }
abbrev rm_X1_endBy : Room := { frames := 0, cells := 0, slots := 0, locals := 0 }
abbrev rm_X1_hasEnded : Room := { frames := 0, cells := 0, slots := 0, locals := 0 }
abbrev rm_X1_hasEither : Room := { frames := 0, cells := 0, slots := 0, locals := 0 }
abbrev rm_X1_covers : Room := { frames := 2, cells := 0, slots := 0, locals := 48 }
abbrev rm_X1_hashOf : Room := { frames := 0, cells := 0, slots := 0, locals := 0 }
abbrev rm_X2_init : Room := { frames := 1, cells := 0, slots := 0, locals := 30 }
abbrev rm_X2_fits : Room := { frames := 1, cells := 0, slots := 0, locals := 26 }
abbrev rm_X3_init : Room := { frames := 1, cells := 0, slots := 0, locals := 30 }
abbrev rm_X3_holds : Room := { frames := 0, cells := 0, slots := 0, locals := 0 }
abbrev rm_X4_init : Room := { frames := 2, cells := 83, slots := 640, locals := 60 }
abbrev rm_X4_addLine : Room := { frames := 8, cells := 3, slots := 18, locals := 132 }
abbrev rm_X4_addPattern : Room := { frames := 8, cells := 6, slots := 34, locals := 133 }
abbrev rm_X4_addHashed : Room := { frames := 8, cells := 6, slots := 36, locals := 133 }
abbrev rm_X4_remove : Room := { frames := 7, cells := 1, slots := 6, locals := 111 }
abbrev rm_X4_certify : Room := { frames := 8, cells := 9, slots := 55, locals := 132 }
abbrev rm_X4_revokeSpan : Room := { frames := 8, cells := 5, slots := 27, locals := 132 }
abbrev rm_X4_setFirstSight : Room := { frames := 7, cells := 1, slots := 6, locals := 112 }
abbrev rm_X4_answer : Room := { frames := 8, cells := 7, slots := 40, locals := 146 }
abbrev rm_X4_confirm : Room := { frames := 8, cells := 4, slots := 22, locals := 138 }
abbrev rm_X4_turn : Room := { frames := 8, cells := 8, slots := 48, locals := 141 }
abbrev rm_X4_pass : Room := { frames := 7, cells := 2, slots := 12, locals := 112 }
abbrev rm_X4_clean : Room := { frames := 7, cells := 1, slots := 6, locals := 112 }
abbrev rm_X4_judge : Room := { frames := 8, cells := 4, slots := 24, locals := 146 }
abbrev rm_X4_judgeByReading : Room := { frames := 8, cells := 3, slots := 18, locals := 133 }
abbrev rm_X4_day : Room := { frames := 0, cells := 0, slots := 0, locals := 0 }
abbrev rm_X4_lines : Room := { frames := 0, cells := 0, slots := 0, locals := 0 }
abbrev rm_X4_keyOf : Room := { frames := 7, cells := 1, slots := 6, locals := 111 }
abbrev rm_X4_seen : Room := { frames := 7, cells := 1, slots := 6, locals := 111 }
abbrev rm_X4_end : Room := { frames := 7, cells := 1, slots := 6, locals := 111 }
abbrev rm_X4_matches : Room := { frames := 8, cells := 3, slots := 18, locals := 133 }
abbrev rm_X4_find : Room := { frames := 8, cells := 2, slots := 12, locals := 133 }
abbrev rm_X4_linesOf : Room := { frames := 8, cells := 1, slots := 6, locals := 132 }
abbrev rm_X4_waiting : Room := { frames := 0, cells := 0, slots := 0, locals := 0 }
abbrev rm_X4_requireWithin : Room := { frames := 6, cells := 1, slots := 6, locals := 90 }
abbrev rm_X4_requireKey : Room := { frames := 7, cells := 1, slots := 6, locals := 112 }
abbrev rm_X4_requireNameAndPort : Room := { frames := 7, cells := 2, slots := 12, locals := 112 }
abbrev rm_X4_lineAt : Room := { frames := 6, cells := 1, slots := 6, locals := 90 }
abbrev rm_X4_certificateAt : Room := { frames := 6, cells := 1, slots := 6, locals := 90 }
abbrev rm_X4_appendLine : Room := { frames := 6, cells := 1, slots := 6, locals := 90 }
abbrev rm_X4_appendSighted : Room := { frames := 7, cells := 3, slots := 16, locals := 114 }
abbrev rm_X4_takeOut : Room := { frames := 0, cells := 0, slots := 0, locals := 0 }
abbrev rm_X4_turnLines : Room := { frames := 7, cells := 0, slots := 0, locals := 113 }
abbrev rm_X4_isToBeCleaned : Room := { frames := 1, cells := 0, slots := 0, locals := 21 }
abbrev rm_X4_seeToday : Room := { frames := 3, cells := 0, slots := 0, locals := 73 }
abbrev rm_X4_letWait : Room := { frames := 0, cells := 0, slots := 0, locals := 0 }
abbrev rm_X4_judgementOf : Room := { frames := 5, cells := 0, slots := 0, locals := 121 }
abbrev rm_X4_judgementByLines : Room := { frames := 3, cells := 0, slots := 0, locals := 73 }
abbrev rm_X4_judgementByMatch : Room := { frames := 2, cells := 0, slots := 0, locals := 42 }
abbrev rm_X4_isLivePlain : Room := { frames := 1, cells := 0, slots := 0, locals := 21 }
abbrev rm_X4_kindOf : Room := { frames := 0, cells := 0, slots := 0, locals := 0 }
abbrev rm_X4_authorityOf : Room := { frames := 0, cells := 0, slots := 0, locals := 0 }
abbrev rm_X4_isGood : Room := { frames := 4, cells := 0, slots := 0, locals := 98 }
abbrev rm_X4_hasAuthority : Room := { frames := 3, cells := 0, slots := 0, locals := 73 }
abbrev rm_X4_isInRevokedSpan : Room := { frames := 1, cells := 0, slots := 0, locals := 22 }
abbrev rm_X4_countRevokedCertificates : Room := { frames := 2, cells := 0, slots := 0, locals := 44 }
abbrev rm_X4_isSameAt : Room := { frames := 0, cells := 0, slots := 0, locals := 0 }
abbrev rm_X5_init : Room := { frames := 1, cells := 22, slots := 1120, locals := 40 }
abbrev rm_X5_thrown : Room := { frames := 0, cells := 0, slots := 0, locals := 0 }
abbrev rm_X5_holds : Room := { frames := 0, cells := 0, slots := 0, locals := 0 }
abbrev rm_X5_isIn : Room := { frames := 0, cells := 0, slots := 0, locals := 0 }
abbrev rm_X5_isKey : Room := { frames := 1, cells := 0, slots := 0, locals := 22 }
abbrev rm_X5_isName : Room := { frames := 1, cells := 0, slots := 0, locals := 22 }
abbrev rm_X5_isPort : Room := { frames := 1, cells := 0, slots := 0, locals := 22 }
abbrev rm_X5_isLine : Room := { frames := 1, cells := 0, slots := 0, locals := 22 }
abbrev rm_X5_areLike : Room := { frames := 0, cells := 0, slots := 0, locals := 0 }
abbrev rm_X5_hash : Room := { frames := 0, cells := 0, slots := 0, locals := 0 }
abbrev rm_X5_isFor : Room := { frames := 1, cells := 0, slots := 0, locals := 26 }
abbrev rm_X5_hasEnded : Room := { frames := 0, cells := 0, slots := 0, locals := 0 }
abbrev rm_X5_adds : Room := { frames := 0, cells := 0, slots := 0, locals := 0 }
abbrev rm_X5_isMark : Room := { frames := 1, cells := 0, slots := 0, locals := 22 }
abbrev rm_X5_addLine : Room := { frames := 2, cells := 0, slots := 0, locals := 42 }
abbrev rm_X5_addsPattern : Room := { frames := 0, cells := 0, slots := 0, locals := 0 }
abbrev rm_X5_addPattern : Room := { frames := 2, cells := 0, slots := 0, locals := 43 }
abbrev rm_X5_addsHashed : Room := { frames := 1, cells := 0, slots := 0, locals := 22 }
abbrev rm_X5_addHashed : Room := { frames := 2, cells := 0, slots := 0, locals := 47 }
abbrev rm_X5_becomesLike : Room := { frames := 0, cells := 0, slots := 0, locals := 0 }
abbrev rm_X5_removes : Room := { frames := 1, cells := 0, slots := 0, locals := 23 }
abbrev rm_X5_remove : Room := { frames := 2, cells := 0, slots := 0, locals := 45 }
abbrev rm_X5_certify : Room := { frames := 2, cells := 0, slots := 0, locals := 42 }
abbrev rm_X5_isRevoked : Room := { frames := 1, cells := 0, slots := 0, locals := 22 }
abbrev rm_X5_revokeSpan : Room := { frames := 2, cells := 0, slots := 0, locals := 45 }
abbrev rm_X5_has : Room := { frames := 2, cells := 0, slots := 0, locals := 53 }
abbrev rm_X5_isGood : Room := { frames := 3, cells := 0, slots := 0, locals := 80 }
abbrev rm_X5_judgement : Room := { frames := 4, cells := 0, slots := 0, locals := 104 }
abbrev rm_X5_setFirstSight : Room := { frames := 1, cells := 0, slots := 0, locals := 22 }
abbrev rm_X5_areAsked : Room := { frames := 2, cells := 0, slots := 0, locals := 42 }
abbrev rm_X5_isJudged : Room := { frames := 3, cells := 0, slots := 0, locals := 64 }
abbrev rm_X5_trusts : Room := { frames := 2, cells := 0, slots := 0, locals := 47 }
abbrev rm_X5_sees : Room := { frames := 2, cells := 0, slots := 0, locals := 53 }
abbrev rm_X5_answer : Room := { frames := 5, cells := 0, slots := 0, locals := 132 }
abbrev rm_X5_confirm : Room := { frames := 3, cells := 0, slots := 0, locals := 70 }
abbrev rm_X5_turn : Room := { frames := 5, cells := 0, slots := 0, locals := 132 }
abbrev rm_X5_pass : Room := { frames := 1, cells := 0, slots := 0, locals := 22 }
abbrev rm_X5_clean : Room := { frames := 2, cells := 0, slots := 0, locals := 45 }
abbrev rm_X5_judge : Room := { frames := 5, cells := 0, slots := 0, locals := 132 }
abbrev rm_X5_judgeByReading : Room := { frames := 5, cells := 0, slots := 0, locals := 132 }
abbrev rm_X5_day : Room := { frames := 0, cells := 0, slots := 0, locals := 0 }
abbrev rm_X5_lines : Room := { frames := 0, cells := 0, slots := 0, locals := 0 }
abbrev rm_X5_keyOf : Room := { frames := 2, cells := 0, slots := 0, locals := 43 }
abbrev rm_X5_seen : Room := { frames := 2, cells := 0, slots := 0, locals := 43 }
abbrev rm_X5_end : Room := { frames := 2, cells := 0, slots := 0, locals := 43 }
abbrev rm_X5_matches : Room := { frames := 2, cells := 0, slots := 0, locals := 53 }
abbrev rm_X5_find : Room := { frames := 2, cells := 0, slots := 0, locals := 53 }
abbrev rm_X5_linesOf : Room := { frames := 2, cells := 0, slots := 0, locals := 42 }
abbrev rm_X5_waiting : Room := { frames := 0, cells := 0, slots := 0, locals := 0 }
abbrev rm_L_addLine : Room := { frames := 9, cells := 3, slots := 18, locals := 154 }
abbrev rm_L_addPattern : Room := { frames := 9, cells := 6, slots := 34, locals := 159 }
abbrev rm_L_addHashed : Room := { frames := 9, cells := 6, slots := 36, locals := 158 }
abbrev rm_L_remove : Room := { frames := 8, cells := 1, slots := 6, locals := 133 }
abbrev rm_L_certify : Room := { frames := 9, cells := 9, slots := 55, locals := 159 }
abbrev rm_L_revokeSpan : Room := { frames := 9, cells := 5, slots := 27, locals := 155 }
abbrev rm_L_setFirstSight : Room := { frames := 8, cells := 1, slots := 6, locals := 135 }
abbrev rm_L_answer : Room := { frames := 9, cells := 7, slots := 40, locals := 172 }
abbrev rm_L_confirm : Room := { frames := 9, cells := 4, slots := 22, locals := 158 }
abbrev rm_L_turn : Room := { frames := 9, cells := 9, slots := 54, locals := 166 }
abbrev rm_L_pass : Room := { frames := 8, cells := 2, slots := 12, locals := 133 }
abbrev rm_L_clean : Room := { frames := 8, cells := 1, slots := 6, locals := 135 }
abbrev rm_L_judge : Room := { frames := 9, cells := 4, slots := 24, locals := 171 }
abbrev rm_L_judgeByReading : Room := { frames := 9, cells := 3, slots := 18, locals := 156 }
abbrev rm_L_keyOf : Room := { frames := 8, cells := 1, slots := 6, locals := 133 }
abbrev rm_L_seen : Room := { frames := 8, cells := 1, slots := 6, locals := 132 }
abbrev rm_L_end : Room := { frames := 8, cells := 1, slots := 6, locals := 132 }
abbrev rm_L_matches : Room := { frames := 9, cells := 3, slots := 18, locals := 157 }
abbrev rm_L_find : Room := { frames := 9, cells := 2, slots := 12, locals := 156 }
abbrev rm_L_linesOf : Room := { frames := 9, cells := 1, slots := 6, locals := 156 }
abbrev rm_X4_appendLine0 : Room := { frames := 1, cells := 0, slots := 0, locals := 40 }
theorem hd_L_addHashed : yL_addHashed.cls ≠ "java/lang/invoke/MethodHandle" ∧ yL_addHashed.cls ≠ "java/lang/invoke/VarHandle" ∧ (parseMethodDescriptor yL_addHashed.desc).map (fun d => d.parameters.length) = some 7 := by decide +kernel
theorem hd_L_addLine : yL_addLine.cls ≠ "java/lang/invoke/MethodHandle" ∧ yL_addLine.cls ≠ "java/lang/invoke/VarHandle" ∧ (parseMethodDescriptor yL_addLine.desc).map (fun d => d.parameters.length) = some 4 := by decide +kernel
theorem hd_L_addPattern : yL_addPattern.cls ≠ "java/lang/invoke/MethodHandle" ∧ yL_addPattern.cls ≠ "java/lang/invoke/VarHandle" ∧ (parseMethodDescriptor yL_addPattern.desc).map (fun d => d.parameters.length) = some 7 := by decide +kernel
theorem hd_L_answer : yL_answer.cls ≠ "java/lang/invoke/MethodHandle" ∧ yL_answer.cls ≠ "java/lang/invoke/VarHandle" ∧ (parseMethodDescriptor yL_answer.desc).map (fun d => d.parameters.length) = some 6 := by decide +kernel
theorem hd_L_certify : yL_certify.cls ≠ "java/lang/invoke/MethodHandle" ∧ yL_certify.cls ≠ "java/lang/invoke/VarHandle" ∧ (parseMethodDescriptor yL_certify.desc).map (fun d => d.parameters.length) = some 9 := by decide +kernel
theorem hd_L_clean : yL_clean.cls ≠ "java/lang/invoke/MethodHandle" ∧ yL_clean.cls ≠ "java/lang/invoke/VarHandle" ∧ (parseMethodDescriptor yL_clean.desc).map (fun d => d.parameters.length) = some 3 := by decide +kernel
theorem hd_L_confirm : yL_confirm.cls ≠ "java/lang/invoke/MethodHandle" ∧ yL_confirm.cls ≠ "java/lang/invoke/VarHandle" ∧ (parseMethodDescriptor yL_confirm.desc).map (fun d => d.parameters.length) = some 2 := by decide +kernel
theorem hd_L_end : yL_end.cls ≠ "java/lang/invoke/MethodHandle" ∧ yL_end.cls ≠ "java/lang/invoke/VarHandle" ∧ (parseMethodDescriptor yL_end.desc).map (fun d => d.parameters.length) = some 3 := by decide +kernel
theorem hd_L_find : yL_find.cls ≠ "java/lang/invoke/MethodHandle" ∧ yL_find.cls ≠ "java/lang/invoke/VarHandle" ∧ (parseMethodDescriptor yL_find.desc).map (fun d => d.parameters.length) = some 4 := by decide +kernel
theorem hd_L_judge : yL_judge.cls ≠ "java/lang/invoke/MethodHandle" ∧ yL_judge.cls ≠ "java/lang/invoke/VarHandle" ∧ (parseMethodDescriptor yL_judge.desc).map (fun d => d.parameters.length) = some 6 := by decide +kernel
theorem hd_L_judgeByReading : yL_judgeByReading.cls ≠ "java/lang/invoke/MethodHandle" ∧ yL_judgeByReading.cls ≠ "java/lang/invoke/VarHandle" ∧ (parseMethodDescriptor yL_judgeByReading.desc).map (fun d => d.parameters.length) = some 5 := by decide +kernel
theorem hd_L_keyOf : yL_keyOf.cls ≠ "java/lang/invoke/MethodHandle" ∧ yL_keyOf.cls ≠ "java/lang/invoke/VarHandle" ∧ (parseMethodDescriptor yL_keyOf.desc).map (fun d => d.parameters.length) = some 3 := by decide +kernel
theorem hd_L_linesOf : yL_linesOf.cls ≠ "java/lang/invoke/MethodHandle" ∧ yL_linesOf.cls ≠ "java/lang/invoke/VarHandle" ∧ (parseMethodDescriptor yL_linesOf.desc).map (fun d => d.parameters.length) = some 3 := by decide +kernel
theorem hd_L_matches : yL_matches.cls ≠ "java/lang/invoke/MethodHandle" ∧ yL_matches.cls ≠ "java/lang/invoke/VarHandle" ∧ (parseMethodDescriptor yL_matches.desc).map (fun d => d.parameters.length) = some 5 := by decide +kernel
theorem hd_L_pass : yL_pass.cls ≠ "java/lang/invoke/MethodHandle" ∧ yL_pass.cls ≠ "java/lang/invoke/VarHandle" ∧ (parseMethodDescriptor yL_pass.desc).map (fun d => d.parameters.length) = some 3 := by decide +kernel
theorem hd_L_remove : yL_remove.cls ≠ "java/lang/invoke/MethodHandle" ∧ yL_remove.cls ≠ "java/lang/invoke/VarHandle" ∧ (parseMethodDescriptor yL_remove.desc).map (fun d => d.parameters.length) = some 3 := by decide +kernel
theorem hd_L_revokeSpan : yL_revokeSpan.cls ≠ "java/lang/invoke/MethodHandle" ∧ yL_revokeSpan.cls ≠ "java/lang/invoke/VarHandle" ∧ (parseMethodDescriptor yL_revokeSpan.desc).map (fun d => d.parameters.length) = some 5 := by decide +kernel
theorem hd_L_seen : yL_seen.cls ≠ "java/lang/invoke/MethodHandle" ∧ yL_seen.cls ≠ "java/lang/invoke/VarHandle" ∧ (parseMethodDescriptor yL_seen.desc).map (fun d => d.parameters.length) = some 3 := by decide +kernel
theorem hd_L_setFirstSight : yL_setFirstSight.cls ≠ "java/lang/invoke/MethodHandle" ∧ yL_setFirstSight.cls ≠ "java/lang/invoke/VarHandle" ∧ (parseMethodDescriptor yL_setFirstSight.desc).map (fun d => d.parameters.length) = some 4 := by decide +kernel
theorem hd_L_turn : yL_turn.cls ≠ "java/lang/invoke/MethodHandle" ∧ yL_turn.cls ≠ "java/lang/invoke/VarHandle" ∧ (parseMethodDescriptor yL_turn.desc).map (fun d => d.parameters.length) = some 7 := by decide +kernel
theorem hd_X0_init : yX0_init.cls ≠ "java/lang/invoke/MethodHandle" ∧ yX0_init.cls ≠ "java/lang/invoke/VarHandle" ∧ (parseMethodDescriptor yX0_init.desc).map (fun d => d.parameters.length) = some 7 := by decide +kernel
theorem hd_X1_begin : yX1_begin.cls = RX1 ∧ yX1_begin.cls ≠ "java/lang/invoke/MethodHandle" ∧ yX1_begin.cls ≠ "java/lang/invoke/VarHandle" ∧ (parseMethodDescriptor yX1_begin.desc).map (fun d => d.parameters.length) = some 3 := by decide +kernel
theorem hd_X1_covers : yX1_covers.cls = RX1 ∧ yX1_covers.cls ≠ "java/lang/invoke/MethodHandle" ∧ yX1_covers.cls ≠ "java/lang/invoke/VarHandle" ∧ (parseMethodDescriptor yX1_covers.desc).map (fun d => d.parameters.length) = some 2 := by decide +kernel
theorem hd_X1_endBy : yX1_endBy.cls = RX1 ∧ yX1_endBy.cls ≠ "java/lang/invoke/MethodHandle" ∧ yX1_endBy.cls ≠ "java/lang/invoke/VarHandle" ∧ (parseMethodDescriptor yX1_endBy.desc).map (fun d => d.parameters.length) = some 1 := by decide +kernel
theorem hd_X1_hasEither : yX1_hasEither.cls = RX1 ∧ yX1_hasEither.cls ≠ "java/lang/invoke/MethodHandle" ∧ yX1_hasEither.cls ≠ "java/lang/invoke/VarHandle" ∧ (parseMethodDescriptor yX1_hasEither.desc).map (fun d => d.parameters.length) = some 2 := by decide +kernel
theorem hd_X1_hasEnded : yX1_hasEnded.cls = RX1 ∧ yX1_hasEnded.cls ≠ "java/lang/invoke/MethodHandle" ∧ yX1_hasEnded.cls ≠ "java/lang/invoke/VarHandle" ∧ (parseMethodDescriptor yX1_hasEnded.desc).map (fun d => d.parameters.length) = some 1 := by decide +kernel
theorem hd_X1_hashOf : yX1_hashOf.cls ≠ "java/lang/invoke/MethodHandle" ∧ yX1_hashOf.cls ≠ "java/lang/invoke/VarHandle" ∧ (parseMethodDescriptor yX1_hashOf.desc).map (fun d => d.parameters.length) = some 2 := by decide +kernel
theorem hd_X1_init : yX1_init.cls ≠ "java/lang/invoke/MethodHandle" ∧ yX1_init.cls ≠ "java/lang/invoke/VarHandle" ∧ (parseMethodDescriptor yX1_init.desc).map (fun d => d.parameters.length) = some 0 := by decide +kernel
theorem hd_X1_takeHash : yX1_takeHash.cls = RX1 ∧ yX1_takeHash.cls ≠ "java/lang/invoke/MethodHandle" ∧ yX1_takeHash.cls ≠ "java/lang/invoke/VarHandle" ∧ (parseMethodDescriptor yX1_takeHash.desc).map (fun d => d.parameters.length) = some 3 := by decide +kernel
theorem hd_X1_takeMatching : yX1_takeMatching.cls = RX1 ∧ yX1_takeMatching.cls ≠ "java/lang/invoke/MethodHandle" ∧ yX1_takeMatching.cls ≠ "java/lang/invoke/VarHandle" ∧ (parseMethodDescriptor yX1_takeMatching.desc).map (fun d => d.parameters.length) = some 1 := by decide +kernel
theorem hd_X1_takePattern : yX1_takePattern.cls = RX1 ∧ yX1_takePattern.cls ≠ "java/lang/invoke/MethodHandle" ∧ yX1_takePattern.cls ≠ "java/lang/invoke/VarHandle" ∧ (parseMethodDescriptor yX1_takePattern.desc).map (fun d => d.parameters.length) = some 4 := by decide +kernel
theorem hd_X2_fits : yX2_fits.cls = RX2 ∧ yX2_fits.cls ≠ "java/lang/invoke/MethodHandle" ∧ yX2_fits.cls ≠ "java/lang/invoke/VarHandle" ∧ (parseMethodDescriptor yX2_fits.desc).map (fun d => d.parameters.length) = some 2 := by decide +kernel
theorem hd_X2_init : yX2_init.cls ≠ "java/lang/invoke/MethodHandle" ∧ yX2_init.cls ≠ "java/lang/invoke/VarHandle" ∧ (parseMethodDescriptor yX2_init.desc).map (fun d => d.parameters.length) = some 4 := by decide +kernel
theorem hd_X3_holds : yX3_holds.cls = RX3 ∧ yX3_holds.cls ≠ "java/lang/invoke/MethodHandle" ∧ yX3_holds.cls ≠ "java/lang/invoke/VarHandle" ∧ (parseMethodDescriptor yX3_holds.desc).map (fun d => d.parameters.length) = some 2 := by decide +kernel
theorem hd_X3_init : yX3_init.cls ≠ "java/lang/invoke/MethodHandle" ∧ yX3_init.cls ≠ "java/lang/invoke/VarHandle" ∧ (parseMethodDescriptor yX3_init.desc).map (fun d => d.parameters.length) = some 3 := by decide +kernel
theorem hd_X4_addHashed : yX4_addHashed.cls = RX4 ∧ yX4_addHashed.cls ≠ "java/lang/invoke/MethodHandle" ∧ yX4_addHashed.cls ≠ "java/lang/invoke/VarHandle" ∧ (parseMethodDescriptor yX4_addHashed.desc).map (fun d => d.parameters.length) = some 5 := by decide +kernel
theorem hd_X4_addLine : yX4_addLine.cls = RX4 ∧ yX4_addLine.cls ≠ "java/lang/invoke/MethodHandle" ∧ yX4_addLine.cls ≠ "java/lang/invoke/VarHandle" ∧ (parseMethodDescriptor yX4_addLine.desc).map (fun d => d.parameters.length) = some 2 := by decide +kernel
theorem hd_X4_addPattern : yX4_addPattern.cls = RX4 ∧ yX4_addPattern.cls ≠ "java/lang/invoke/MethodHandle" ∧ yX4_addPattern.cls ≠ "java/lang/invoke/VarHandle" ∧ (parseMethodDescriptor yX4_addPattern.desc).map (fun d => d.parameters.length) = some 5 := by decide +kernel
theorem hd_X4_answer : yX4_answer.cls = RX4 ∧ yX4_answer.cls ≠ "java/lang/invoke/MethodHandle" ∧ yX4_answer.cls ≠ "java/lang/invoke/VarHandle" ∧ (parseMethodDescriptor yX4_answer.desc).map (fun d => d.parameters.length) = some 4 := by decide +kernel
theorem hd_X4_appendLine : yX4_appendLine.cls = RX4 ∧ yX4_appendLine.cls ≠ "java/lang/invoke/MethodHandle" ∧ yX4_appendLine.cls ≠ "java/lang/invoke/VarHandle" ∧ (parseMethodDescriptor yX4_appendLine.desc).map (fun d => d.parameters.length) = some 2 := by decide +kernel
theorem hd_X4_appendSighted : yX4_appendSighted.cls = RX4 ∧ yX4_appendSighted.cls ≠ "java/lang/invoke/MethodHandle" ∧ yX4_appendSighted.cls ≠ "java/lang/invoke/VarHandle" ∧ (parseMethodDescriptor yX4_appendSighted.desc).map (fun d => d.parameters.length) = some 3 := by decide +kernel
theorem hd_X4_authorityOf : yX4_authorityOf.cls ≠ "java/lang/invoke/MethodHandle" ∧ yX4_authorityOf.cls ≠ "java/lang/invoke/VarHandle" ∧ (parseMethodDescriptor yX4_authorityOf.desc).map (fun d => d.parameters.length) = some 1 := by decide +kernel
theorem hd_X4_certificateAt : yX4_certificateAt.cls = RX4 ∧ yX4_certificateAt.cls ≠ "java/lang/invoke/MethodHandle" ∧ yX4_certificateAt.cls ≠ "java/lang/invoke/VarHandle" ∧ (parseMethodDescriptor yX4_certificateAt.desc).map (fun d => d.parameters.length) = some 1 := by decide +kernel
theorem hd_X4_certify : yX4_certify.cls = RX4 ∧ yX4_certify.cls ≠ "java/lang/invoke/MethodHandle" ∧ yX4_certify.cls ≠ "java/lang/invoke/VarHandle" ∧ (parseMethodDescriptor yX4_certify.desc).map (fun d => d.parameters.length) = some 7 := by decide +kernel
theorem hd_X4_clean : yX4_clean.cls = RX4 ∧ yX4_clean.cls ≠ "java/lang/invoke/MethodHandle" ∧ yX4_clean.cls ≠ "java/lang/invoke/VarHandle" ∧ (parseMethodDescriptor yX4_clean.desc).map (fun d => d.parameters.length) = some 1 := by decide +kernel
theorem hd_X4_confirm : yX4_confirm.cls = RX4 ∧ yX4_confirm.cls ≠ "java/lang/invoke/MethodHandle" ∧ yX4_confirm.cls ≠ "java/lang/invoke/VarHandle" ∧ (parseMethodDescriptor yX4_confirm.desc).map (fun d => d.parameters.length) = some 0 := by decide +kernel
theorem hd_X4_countRevokedCertificates : yX4_countRevokedCertificates.cls = RX4 ∧ yX4_countRevokedCertificates.cls ≠ "java/lang/invoke/MethodHandle" ∧ yX4_countRevokedCertificates.cls ≠ "java/lang/invoke/VarHandle" ∧ (parseMethodDescriptor yX4_countRevokedCertificates.desc).map (fun d => d.parameters.length) = some 0 := by decide +kernel
theorem hd_X4_day : yX4_day.cls = RX4 ∧ yX4_day.cls ≠ "java/lang/invoke/MethodHandle" ∧ yX4_day.cls ≠ "java/lang/invoke/VarHandle" ∧ (parseMethodDescriptor yX4_day.desc).map (fun d => d.parameters.length) = some 0 := by decide +kernel
theorem hd_X4_end : yX4_end.cls = RX4 ∧ yX4_end.cls ≠ "java/lang/invoke/MethodHandle" ∧ yX4_end.cls ≠ "java/lang/invoke/VarHandle" ∧ (parseMethodDescriptor yX4_end.desc).map (fun d => d.parameters.length) = some 1 := by decide +kernel
theorem hd_X4_find : yX4_find.cls = RX4 ∧ yX4_find.cls ≠ "java/lang/invoke/MethodHandle" ∧ yX4_find.cls ≠ "java/lang/invoke/VarHandle" ∧ (parseMethodDescriptor yX4_find.desc).map (fun d => d.parameters.length) = some 2 := by decide +kernel
theorem hd_X4_hasAuthority : yX4_hasAuthority.cls = RX4 ∧ yX4_hasAuthority.cls ≠ "java/lang/invoke/MethodHandle" ∧ yX4_hasAuthority.cls ≠ "java/lang/invoke/VarHandle" ∧ (parseMethodDescriptor yX4_hasAuthority.desc).map (fun d => d.parameters.length) = some 3 := by decide +kernel
theorem hd_X4_init : yX4_init.cls ≠ "java/lang/invoke/MethodHandle" ∧ yX4_init.cls ≠ "java/lang/invoke/VarHandle" ∧ (parseMethodDescriptor yX4_init.desc).map (fun d => d.parameters.length) = some 0 := by decide +kernel
theorem hd_X4_isGood : yX4_isGood.cls = RX4 ∧ yX4_isGood.cls ≠ "java/lang/invoke/MethodHandle" ∧ yX4_isGood.cls ≠ "java/lang/invoke/VarHandle" ∧ (parseMethodDescriptor yX4_isGood.desc).map (fun d => d.parameters.length) = some 3 := by decide +kernel
theorem hd_X4_isInRevokedSpan : yX4_isInRevokedSpan.cls = RX4 ∧ yX4_isInRevokedSpan.cls ≠ "java/lang/invoke/MethodHandle" ∧ yX4_isInRevokedSpan.cls ≠ "java/lang/invoke/VarHandle" ∧ (parseMethodDescriptor yX4_isInRevokedSpan.desc).map (fun d => d.parameters.length) = some 1 := by decide +kernel
theorem hd_X4_isLivePlain : yX4_isLivePlain.cls = RX4 ∧ yX4_isLivePlain.cls ≠ "java/lang/invoke/MethodHandle" ∧ yX4_isLivePlain.cls ≠ "java/lang/invoke/VarHandle" ∧ (parseMethodDescriptor yX4_isLivePlain.desc).map (fun d => d.parameters.length) = some 1 := by decide +kernel
theorem hd_X4_isSameAt : yX4_isSameAt.cls ≠ "java/lang/invoke/MethodHandle" ∧ yX4_isSameAt.cls ≠ "java/lang/invoke/VarHandle" ∧ (parseMethodDescriptor yX4_isSameAt.desc).map (fun d => d.parameters.length) = some 3 := by decide +kernel
theorem hd_X4_isToBeCleaned : yX4_isToBeCleaned.cls = RX4 ∧ yX4_isToBeCleaned.cls ≠ "java/lang/invoke/MethodHandle" ∧ yX4_isToBeCleaned.cls ≠ "java/lang/invoke/VarHandle" ∧ (parseMethodDescriptor yX4_isToBeCleaned.desc).map (fun d => d.parameters.length) = some 2 := by decide +kernel
theorem hd_X4_judge : yX4_judge.cls = RX4 ∧ yX4_judge.cls ≠ "java/lang/invoke/MethodHandle" ∧ yX4_judge.cls ≠ "java/lang/invoke/VarHandle" ∧ (parseMethodDescriptor yX4_judge.desc).map (fun d => d.parameters.length) = some 4 := by decide +kernel
theorem hd_X4_judgeByReading : yX4_judgeByReading.cls = RX4 ∧ yX4_judgeByReading.cls ≠ "java/lang/invoke/MethodHandle" ∧ yX4_judgeByReading.cls ≠ "java/lang/invoke/VarHandle" ∧ (parseMethodDescriptor yX4_judgeByReading.desc).map (fun d => d.parameters.length) = some 3 := by decide +kernel
theorem hd_X4_judgementByLines : yX4_judgementByLines.cls = RX4 ∧ yX4_judgementByLines.cls ≠ "java/lang/invoke/MethodHandle" ∧ yX4_judgementByLines.cls ≠ "java/lang/invoke/VarHandle" ∧ (parseMethodDescriptor yX4_judgementByLines.desc).map (fun d => d.parameters.length) = some 4 := by decide +kernel
theorem hd_X4_judgementByMatch : yX4_judgementByMatch.cls = RX4 ∧ yX4_judgementByMatch.cls ≠ "java/lang/invoke/MethodHandle" ∧ yX4_judgementByMatch.cls ≠ "java/lang/invoke/VarHandle" ∧ (parseMethodDescriptor yX4_judgementByMatch.desc).map (fun d => d.parameters.length) = some 3 := by decide +kernel
theorem hd_X4_judgementOf : yX4_judgementOf.cls = RX4 ∧ yX4_judgementOf.cls ≠ "java/lang/invoke/MethodHandle" ∧ yX4_judgementOf.cls ≠ "java/lang/invoke/VarHandle" ∧ (parseMethodDescriptor yX4_judgementOf.desc).map (fun d => d.parameters.length) = some 4 := by decide +kernel
theorem hd_X4_keyOf : yX4_keyOf.cls = RX4 ∧ yX4_keyOf.cls ≠ "java/lang/invoke/MethodHandle" ∧ yX4_keyOf.cls ≠ "java/lang/invoke/VarHandle" ∧ (parseMethodDescriptor yX4_keyOf.desc).map (fun d => d.parameters.length) = some 1 := by decide +kernel
theorem hd_X4_kindOf : yX4_kindOf.cls ≠ "java/lang/invoke/MethodHandle" ∧ yX4_kindOf.cls ≠ "java/lang/invoke/VarHandle" ∧ (parseMethodDescriptor yX4_kindOf.desc).map (fun d => d.parameters.length) = some 1 := by decide +kernel
theorem hd_X4_letWait : yX4_letWait.cls = RX4 ∧ yX4_letWait.cls ≠ "java/lang/invoke/MethodHandle" ∧ yX4_letWait.cls ≠ "java/lang/invoke/VarHandle" ∧ (parseMethodDescriptor yX4_letWait.desc).map (fun d => d.parameters.length) = some 3 := by decide +kernel
theorem hd_X4_lineAt : yX4_lineAt.cls = RX4 ∧ yX4_lineAt.cls ≠ "java/lang/invoke/MethodHandle" ∧ yX4_lineAt.cls ≠ "java/lang/invoke/VarHandle" ∧ (parseMethodDescriptor yX4_lineAt.desc).map (fun d => d.parameters.length) = some 1 := by decide +kernel
theorem hd_X4_lines : yX4_lines.cls = RX4 ∧ yX4_lines.cls ≠ "java/lang/invoke/MethodHandle" ∧ yX4_lines.cls ≠ "java/lang/invoke/VarHandle" ∧ (parseMethodDescriptor yX4_lines.desc).map (fun d => d.parameters.length) = some 0 := by decide +kernel
theorem hd_X4_linesOf : yX4_linesOf.cls = RX4 ∧ yX4_linesOf.cls ≠ "java/lang/invoke/MethodHandle" ∧ yX4_linesOf.cls ≠ "java/lang/invoke/VarHandle" ∧ (parseMethodDescriptor yX4_linesOf.desc).map (fun d => d.parameters.length) = some 1 := by decide +kernel
theorem hd_X4_matches : yX4_matches.cls = RX4 ∧ yX4_matches.cls ≠ "java/lang/invoke/MethodHandle" ∧ yX4_matches.cls ≠ "java/lang/invoke/VarHandle" ∧ (parseMethodDescriptor yX4_matches.desc).map (fun d => d.parameters.length) = some 3 := by decide +kernel
theorem hd_X4_pass : yX4_pass.cls = RX4 ∧ yX4_pass.cls ≠ "java/lang/invoke/MethodHandle" ∧ yX4_pass.cls ≠ "java/lang/invoke/VarHandle" ∧ (parseMethodDescriptor yX4_pass.desc).map (fun d => d.parameters.length) = some 1 := by decide +kernel
theorem hd_X4_remove : yX4_remove.cls = RX4 ∧ yX4_remove.cls ≠ "java/lang/invoke/MethodHandle" ∧ yX4_remove.cls ≠ "java/lang/invoke/VarHandle" ∧ (parseMethodDescriptor yX4_remove.desc).map (fun d => d.parameters.length) = some 1 := by decide +kernel
theorem hd_X4_requireKey : yX4_requireKey.cls ≠ "java/lang/invoke/MethodHandle" ∧ yX4_requireKey.cls ≠ "java/lang/invoke/VarHandle" ∧ (parseMethodDescriptor yX4_requireKey.desc).map (fun d => d.parameters.length) = some 1 := by decide +kernel
theorem hd_X4_requireNameAndPort : yX4_requireNameAndPort.cls ≠ "java/lang/invoke/MethodHandle" ∧ yX4_requireNameAndPort.cls ≠ "java/lang/invoke/VarHandle" ∧ (parseMethodDescriptor yX4_requireNameAndPort.desc).map (fun d => d.parameters.length) = some 2 := by decide +kernel
theorem hd_X4_requireWithin : yX4_requireWithin.cls ≠ "java/lang/invoke/MethodHandle" ∧ yX4_requireWithin.cls ≠ "java/lang/invoke/VarHandle" ∧ (parseMethodDescriptor yX4_requireWithin.desc).map (fun d => d.parameters.length) = some 3 := by decide +kernel
theorem hd_X4_revokeSpan : yX4_revokeSpan.cls = RX4 ∧ yX4_revokeSpan.cls ≠ "java/lang/invoke/MethodHandle" ∧ yX4_revokeSpan.cls ≠ "java/lang/invoke/VarHandle" ∧ (parseMethodDescriptor yX4_revokeSpan.desc).map (fun d => d.parameters.length) = some 3 := by decide +kernel
theorem hd_X4_seeToday : yX4_seeToday.cls = RX4 ∧ yX4_seeToday.cls ≠ "java/lang/invoke/MethodHandle" ∧ yX4_seeToday.cls ≠ "java/lang/invoke/VarHandle" ∧ (parseMethodDescriptor yX4_seeToday.desc).map (fun d => d.parameters.length) = some 4 := by decide +kernel
theorem hd_X4_seen : yX4_seen.cls = RX4 ∧ yX4_seen.cls ≠ "java/lang/invoke/MethodHandle" ∧ yX4_seen.cls ≠ "java/lang/invoke/VarHandle" ∧ (parseMethodDescriptor yX4_seen.desc).map (fun d => d.parameters.length) = some 1 := by decide +kernel
theorem hd_X4_setFirstSight : yX4_setFirstSight.cls = RX4 ∧ yX4_setFirstSight.cls ≠ "java/lang/invoke/MethodHandle" ∧ yX4_setFirstSight.cls ≠ "java/lang/invoke/VarHandle" ∧ (parseMethodDescriptor yX4_setFirstSight.desc).map (fun d => d.parameters.length) = some 2 := by decide +kernel
theorem hd_X4_takeOut : yX4_takeOut.cls = RX4 ∧ yX4_takeOut.cls ≠ "java/lang/invoke/MethodHandle" ∧ yX4_takeOut.cls ≠ "java/lang/invoke/VarHandle" ∧ (parseMethodDescriptor yX4_takeOut.desc).map (fun d => d.parameters.length) = some 1 := by decide +kernel
theorem hd_X4_turn : yX4_turn.cls = RX4 ∧ yX4_turn.cls ≠ "java/lang/invoke/MethodHandle" ∧ yX4_turn.cls ≠ "java/lang/invoke/VarHandle" ∧ (parseMethodDescriptor yX4_turn.desc).map (fun d => d.parameters.length) = some 5 := by decide +kernel
theorem hd_X4_turnLines : yX4_turnLines.cls = RX4 ∧ yX4_turnLines.cls ≠ "java/lang/invoke/MethodHandle" ∧ yX4_turnLines.cls ≠ "java/lang/invoke/VarHandle" ∧ (parseMethodDescriptor yX4_turnLines.desc).map (fun d => d.parameters.length) = some 5 := by decide +kernel
theorem hd_X4_waiting : yX4_waiting.cls = RX4 ∧ yX4_waiting.cls ≠ "java/lang/invoke/MethodHandle" ∧ yX4_waiting.cls ≠ "java/lang/invoke/VarHandle" ∧ (parseMethodDescriptor yX4_waiting.desc).map (fun d => d.parameters.length) = some 0 := by decide +kernel
theorem hd_X5_addHashed : yX5_addHashed.cls = RX5 ∧ yX5_addHashed.cls ≠ "java/lang/invoke/MethodHandle" ∧ yX5_addHashed.cls ≠ "java/lang/invoke/VarHandle" ∧ (parseMethodDescriptor yX5_addHashed.desc).map (fun d => d.parameters.length) = some 5 := by decide +kernel
theorem hd_X5_addLine : yX5_addLine.cls = RX5 ∧ yX5_addLine.cls ≠ "java/lang/invoke/MethodHandle" ∧ yX5_addLine.cls ≠ "java/lang/invoke/VarHandle" ∧ (parseMethodDescriptor yX5_addLine.desc).map (fun d => d.parameters.length) = some 2 := by decide +kernel
theorem hd_X5_addPattern : yX5_addPattern.cls = RX5 ∧ yX5_addPattern.cls ≠ "java/lang/invoke/MethodHandle" ∧ yX5_addPattern.cls ≠ "java/lang/invoke/VarHandle" ∧ (parseMethodDescriptor yX5_addPattern.desc).map (fun d => d.parameters.length) = some 5 := by decide +kernel
theorem hd_X5_adds : yX5_adds.cls = RX5 ∧ yX5_adds.cls ≠ "java/lang/invoke/MethodHandle" ∧ yX5_adds.cls ≠ "java/lang/invoke/VarHandle" ∧ (parseMethodDescriptor yX5_adds.desc).map (fun d => d.parameters.length) = some 2 := by decide +kernel
theorem hd_X5_addsHashed : yX5_addsHashed.cls = RX5 ∧ yX5_addsHashed.cls ≠ "java/lang/invoke/MethodHandle" ∧ yX5_addsHashed.cls ≠ "java/lang/invoke/VarHandle" ∧ (parseMethodDescriptor yX5_addsHashed.desc).map (fun d => d.parameters.length) = some 5 := by decide +kernel
theorem hd_X5_addsPattern : yX5_addsPattern.cls = RX5 ∧ yX5_addsPattern.cls ≠ "java/lang/invoke/MethodHandle" ∧ yX5_addsPattern.cls ≠ "java/lang/invoke/VarHandle" ∧ (parseMethodDescriptor yX5_addsPattern.desc).map (fun d => d.parameters.length) = some 5 := by decide +kernel
theorem hd_X5_answer : yX5_answer.cls = RX5 ∧ yX5_answer.cls ≠ "java/lang/invoke/MethodHandle" ∧ yX5_answer.cls ≠ "java/lang/invoke/VarHandle" ∧ (parseMethodDescriptor yX5_answer.desc).map (fun d => d.parameters.length) = some 4 := by decide +kernel
theorem hd_X5_areAsked : yX5_areAsked.cls ≠ "java/lang/invoke/MethodHandle" ∧ yX5_areAsked.cls ≠ "java/lang/invoke/VarHandle" ∧ (parseMethodDescriptor yX5_areAsked.desc).map (fun d => d.parameters.length) = some 3 := by decide +kernel
theorem hd_X5_areLike : yX5_areLike.cls ≠ "java/lang/invoke/MethodHandle" ∧ yX5_areLike.cls ≠ "java/lang/invoke/VarHandle" ∧ (parseMethodDescriptor yX5_areLike.desc).map (fun d => d.parameters.length) = some 3 := by decide +kernel
theorem hd_X5_becomesLike : yX5_becomesLike.cls = RX5 ∧ yX5_becomesLike.cls ≠ "java/lang/invoke/MethodHandle" ∧ yX5_becomesLike.cls ≠ "java/lang/invoke/VarHandle" ∧ (parseMethodDescriptor yX5_becomesLike.desc).map (fun d => d.parameters.length) = some 2 := by decide +kernel
theorem hd_X5_certify : yX5_certify.cls = RX5 ∧ yX5_certify.cls ≠ "java/lang/invoke/MethodHandle" ∧ yX5_certify.cls ≠ "java/lang/invoke/VarHandle" ∧ (parseMethodDescriptor yX5_certify.desc).map (fun d => d.parameters.length) = some 7 := by decide +kernel
theorem hd_X5_clean : yX5_clean.cls = RX5 ∧ yX5_clean.cls ≠ "java/lang/invoke/MethodHandle" ∧ yX5_clean.cls ≠ "java/lang/invoke/VarHandle" ∧ (parseMethodDescriptor yX5_clean.desc).map (fun d => d.parameters.length) = some 1 := by decide +kernel
theorem hd_X5_confirm : yX5_confirm.cls = RX5 ∧ yX5_confirm.cls ≠ "java/lang/invoke/MethodHandle" ∧ yX5_confirm.cls ≠ "java/lang/invoke/VarHandle" ∧ (parseMethodDescriptor yX5_confirm.desc).map (fun d => d.parameters.length) = some 0 := by decide +kernel
theorem hd_X5_day : yX5_day.cls = RX5 ∧ yX5_day.cls ≠ "java/lang/invoke/MethodHandle" ∧ yX5_day.cls ≠ "java/lang/invoke/VarHandle" ∧ (parseMethodDescriptor yX5_day.desc).map (fun d => d.parameters.length) = some 0 := by decide +kernel
theorem hd_X5_end : yX5_end.cls = RX5 ∧ yX5_end.cls ≠ "java/lang/invoke/MethodHandle" ∧ yX5_end.cls ≠ "java/lang/invoke/VarHandle" ∧ (parseMethodDescriptor yX5_end.desc).map (fun d => d.parameters.length) = some 1 := by decide +kernel
theorem hd_X5_find : yX5_find.cls = RX5 ∧ yX5_find.cls ≠ "java/lang/invoke/MethodHandle" ∧ yX5_find.cls ≠ "java/lang/invoke/VarHandle" ∧ (parseMethodDescriptor yX5_find.desc).map (fun d => d.parameters.length) = some 2 := by decide +kernel
theorem hd_X5_has : yX5_has.cls = RX5 ∧ yX5_has.cls ≠ "java/lang/invoke/MethodHandle" ∧ yX5_has.cls ≠ "java/lang/invoke/VarHandle" ∧ (parseMethodDescriptor yX5_has.desc).map (fun d => d.parameters.length) = some 5 := by decide +kernel
theorem hd_X5_hasEnded : yX5_hasEnded.cls = RX5 ∧ yX5_hasEnded.cls ≠ "java/lang/invoke/MethodHandle" ∧ yX5_hasEnded.cls ≠ "java/lang/invoke/VarHandle" ∧ (parseMethodDescriptor yX5_hasEnded.desc).map (fun d => d.parameters.length) = some 1 := by decide +kernel
theorem hd_X5_hash : yX5_hash.cls ≠ "java/lang/invoke/MethodHandle" ∧ yX5_hash.cls ≠ "java/lang/invoke/VarHandle" ∧ (parseMethodDescriptor yX5_hash.desc).map (fun d => d.parameters.length) = some 2 := by decide +kernel
theorem hd_X5_holds : yX5_holds.cls = RX5 ∧ yX5_holds.cls ≠ "java/lang/invoke/MethodHandle" ∧ yX5_holds.cls ≠ "java/lang/invoke/VarHandle" ∧ (parseMethodDescriptor yX5_holds.desc).map (fun d => d.parameters.length) = some 1 := by decide +kernel
theorem hd_X5_init : yX5_init.cls ≠ "java/lang/invoke/MethodHandle" ∧ yX5_init.cls ≠ "java/lang/invoke/VarHandle" ∧ (parseMethodDescriptor yX5_init.desc).map (fun d => d.parameters.length) = some 0 := by decide +kernel
theorem hd_X5_isFor : yX5_isFor.cls = RX5 ∧ yX5_isFor.cls ≠ "java/lang/invoke/MethodHandle" ∧ yX5_isFor.cls ≠ "java/lang/invoke/VarHandle" ∧ (parseMethodDescriptor yX5_isFor.desc).map (fun d => d.parameters.length) = some 3 := by decide +kernel
theorem hd_X5_isGood : yX5_isGood.cls = RX5 ∧ yX5_isGood.cls ≠ "java/lang/invoke/MethodHandle" ∧ yX5_isGood.cls ≠ "java/lang/invoke/VarHandle" ∧ (parseMethodDescriptor yX5_isGood.desc).map (fun d => d.parameters.length) = some 3 := by decide +kernel
theorem hd_X5_isIn : yX5_isIn.cls ≠ "java/lang/invoke/MethodHandle" ∧ yX5_isIn.cls ≠ "java/lang/invoke/VarHandle" ∧ (parseMethodDescriptor yX5_isIn.desc).map (fun d => d.parameters.length) = some 3 := by decide +kernel
theorem hd_X5_isJudged : yX5_isJudged.cls = RX5 ∧ yX5_isJudged.cls ≠ "java/lang/invoke/MethodHandle" ∧ yX5_isJudged.cls ≠ "java/lang/invoke/VarHandle" ∧ (parseMethodDescriptor yX5_isJudged.desc).map (fun d => d.parameters.length) = some 4 := by decide +kernel
theorem hd_X5_isKey : yX5_isKey.cls ≠ "java/lang/invoke/MethodHandle" ∧ yX5_isKey.cls ≠ "java/lang/invoke/VarHandle" ∧ (parseMethodDescriptor yX5_isKey.desc).map (fun d => d.parameters.length) = some 1 := by decide +kernel
theorem hd_X5_isLine : yX5_isLine.cls = RX5 ∧ yX5_isLine.cls ≠ "java/lang/invoke/MethodHandle" ∧ yX5_isLine.cls ≠ "java/lang/invoke/VarHandle" ∧ (parseMethodDescriptor yX5_isLine.desc).map (fun d => d.parameters.length) = some 1 := by decide +kernel
theorem hd_X5_isMark : yX5_isMark.cls ≠ "java/lang/invoke/MethodHandle" ∧ yX5_isMark.cls ≠ "java/lang/invoke/VarHandle" ∧ (parseMethodDescriptor yX5_isMark.desc).map (fun d => d.parameters.length) = some 1 := by decide +kernel
theorem hd_X5_isName : yX5_isName.cls ≠ "java/lang/invoke/MethodHandle" ∧ yX5_isName.cls ≠ "java/lang/invoke/VarHandle" ∧ (parseMethodDescriptor yX5_isName.desc).map (fun d => d.parameters.length) = some 1 := by decide +kernel
theorem hd_X5_isPort : yX5_isPort.cls ≠ "java/lang/invoke/MethodHandle" ∧ yX5_isPort.cls ≠ "java/lang/invoke/VarHandle" ∧ (parseMethodDescriptor yX5_isPort.desc).map (fun d => d.parameters.length) = some 1 := by decide +kernel
theorem hd_X5_isRevoked : yX5_isRevoked.cls = RX5 ∧ yX5_isRevoked.cls ≠ "java/lang/invoke/MethodHandle" ∧ yX5_isRevoked.cls ≠ "java/lang/invoke/VarHandle" ∧ (parseMethodDescriptor yX5_isRevoked.desc).map (fun d => d.parameters.length) = some 1 := by decide +kernel
theorem hd_X5_judge : yX5_judge.cls = RX5 ∧ yX5_judge.cls ≠ "java/lang/invoke/MethodHandle" ∧ yX5_judge.cls ≠ "java/lang/invoke/VarHandle" ∧ (parseMethodDescriptor yX5_judge.desc).map (fun d => d.parameters.length) = some 4 := by decide +kernel
theorem hd_X5_judgeByReading : yX5_judgeByReading.cls = RX5 ∧ yX5_judgeByReading.cls ≠ "java/lang/invoke/MethodHandle" ∧ yX5_judgeByReading.cls ≠ "java/lang/invoke/VarHandle" ∧ (parseMethodDescriptor yX5_judgeByReading.desc).map (fun d => d.parameters.length) = some 3 := by decide +kernel
theorem hd_X5_judgement : yX5_judgement.cls = RX5 ∧ yX5_judgement.cls ≠ "java/lang/invoke/MethodHandle" ∧ yX5_judgement.cls ≠ "java/lang/invoke/VarHandle" ∧ (parseMethodDescriptor yX5_judgement.desc).map (fun d => d.parameters.length) = some 4 := by decide +kernel
theorem hd_X5_keyOf : yX5_keyOf.cls = RX5 ∧ yX5_keyOf.cls ≠ "java/lang/invoke/MethodHandle" ∧ yX5_keyOf.cls ≠ "java/lang/invoke/VarHandle" ∧ (parseMethodDescriptor yX5_keyOf.desc).map (fun d => d.parameters.length) = some 1 := by decide +kernel
theorem hd_X5_lines : yX5_lines.cls = RX5 ∧ yX5_lines.cls ≠ "java/lang/invoke/MethodHandle" ∧ yX5_lines.cls ≠ "java/lang/invoke/VarHandle" ∧ (parseMethodDescriptor yX5_lines.desc).map (fun d => d.parameters.length) = some 0 := by decide +kernel
theorem hd_X5_linesOf : yX5_linesOf.cls = RX5 ∧ yX5_linesOf.cls ≠ "java/lang/invoke/MethodHandle" ∧ yX5_linesOf.cls ≠ "java/lang/invoke/VarHandle" ∧ (parseMethodDescriptor yX5_linesOf.desc).map (fun d => d.parameters.length) = some 1 := by decide +kernel
theorem hd_X5_matches : yX5_matches.cls = RX5 ∧ yX5_matches.cls ≠ "java/lang/invoke/MethodHandle" ∧ yX5_matches.cls ≠ "java/lang/invoke/VarHandle" ∧ (parseMethodDescriptor yX5_matches.desc).map (fun d => d.parameters.length) = some 3 := by decide +kernel
theorem hd_X5_pass : yX5_pass.cls = RX5 ∧ yX5_pass.cls ≠ "java/lang/invoke/MethodHandle" ∧ yX5_pass.cls ≠ "java/lang/invoke/VarHandle" ∧ (parseMethodDescriptor yX5_pass.desc).map (fun d => d.parameters.length) = some 1 := by decide +kernel
theorem hd_X5_remove : yX5_remove.cls = RX5 ∧ yX5_remove.cls ≠ "java/lang/invoke/MethodHandle" ∧ yX5_remove.cls ≠ "java/lang/invoke/VarHandle" ∧ (parseMethodDescriptor yX5_remove.desc).map (fun d => d.parameters.length) = some 1 := by decide +kernel
theorem hd_X5_removes : yX5_removes.cls = RX5 ∧ yX5_removes.cls ≠ "java/lang/invoke/MethodHandle" ∧ yX5_removes.cls ≠ "java/lang/invoke/VarHandle" ∧ (parseMethodDescriptor yX5_removes.desc).map (fun d => d.parameters.length) = some 1 := by decide +kernel
theorem hd_X5_revokeSpan : yX5_revokeSpan.cls = RX5 ∧ yX5_revokeSpan.cls ≠ "java/lang/invoke/MethodHandle" ∧ yX5_revokeSpan.cls ≠ "java/lang/invoke/VarHandle" ∧ (parseMethodDescriptor yX5_revokeSpan.desc).map (fun d => d.parameters.length) = some 3 := by decide +kernel
theorem hd_X5_seen : yX5_seen.cls = RX5 ∧ yX5_seen.cls ≠ "java/lang/invoke/MethodHandle" ∧ yX5_seen.cls ≠ "java/lang/invoke/VarHandle" ∧ (parseMethodDescriptor yX5_seen.desc).map (fun d => d.parameters.length) = some 1 := by decide +kernel
theorem hd_X5_sees : yX5_sees.cls = RX5 ∧ yX5_sees.cls ≠ "java/lang/invoke/MethodHandle" ∧ yX5_sees.cls ≠ "java/lang/invoke/VarHandle" ∧ (parseMethodDescriptor yX5_sees.desc).map (fun d => d.parameters.length) = some 3 := by decide +kernel
theorem hd_X5_setFirstSight : yX5_setFirstSight.cls = RX5 ∧ yX5_setFirstSight.cls ≠ "java/lang/invoke/MethodHandle" ∧ yX5_setFirstSight.cls ≠ "java/lang/invoke/VarHandle" ∧ (parseMethodDescriptor yX5_setFirstSight.desc).map (fun d => d.parameters.length) = some 2 := by decide +kernel
theorem hd_X5_thrown : yX5_thrown.cls = RX5 ∧ yX5_thrown.cls ≠ "java/lang/invoke/MethodHandle" ∧ yX5_thrown.cls ≠ "java/lang/invoke/VarHandle" ∧ (parseMethodDescriptor yX5_thrown.desc).map (fun d => d.parameters.length) = some 0 := by decide +kernel
theorem hd_X5_trusts : yX5_trusts.cls = RX5 ∧ yX5_trusts.cls ≠ "java/lang/invoke/MethodHandle" ∧ yX5_trusts.cls ≠ "java/lang/invoke/VarHandle" ∧ (parseMethodDescriptor yX5_trusts.desc).map (fun d => d.parameters.length) = some 3 := by decide +kernel
theorem hd_X5_turn : yX5_turn.cls = RX5 ∧ yX5_turn.cls ≠ "java/lang/invoke/MethodHandle" ∧ yX5_turn.cls ≠ "java/lang/invoke/VarHandle" ∧ (parseMethodDescriptor yX5_turn.desc).map (fun d => d.parameters.length) = some 5 := by decide +kernel
theorem hd_X5_waiting : yX5_waiting.cls = RX5 ∧ yX5_waiting.cls ≠ "java/lang/invoke/MethodHandle" ∧ yX5_waiting.cls ≠ "java/lang/invoke/VarHandle" ∧ (parseMethodDescriptor yX5_waiting.desc).map (fun d => d.parameters.length) = some 0 := by decide +kernel
section HMisc
variable {p : Program} {l : Launch} {e : Env} {R : Room} {s : State} {m : MethodId} {args : Array Value} {below : List Frame} {meth : Method} {c : Code} {nL : Nat} {g : hG} {X : va_W} {Q : State → Prop} {S : hS} {cells slots : Nat} {lv : List (Nat × Value)} {pc : Nat} {st rest : List Value} {cc : ByteArray} {Ts : List Cond} {own : String}
theorem q_objInit {b idx : Nat} (F : hF p l s m args meth c cc nL Ts own g) (hlk : Cond.methodLink own idx objectInit ∈ wsL_law) (d : decode cc pc = .ok (.invokespecial idx, 3)) (hR : 1 ≤ R.frames ∧ (st.map fun v => v.category).sum + 12 ≤ R.locals)
    (kk : V p l e R s m args below meth c nL g X Q S cells slots lv (pc + 3) st) : V p l e R s m args below meth c nL g X Q S cells slots lv pc (.ref b :: st) := fun H locs ls hw0 hS0 hl =>
  W.objInit F.1.1 F.1.2.1 F.1.2.2.2.1 (hk_word F.2.1 hlk args) (hk_word F.2.1 (List.mem_of_getElem? (i := 11) (by decide +kernel)) args) (hk_word F.2.1 (List.mem_of_getElem? (i := 12) (by decide +kernel)) args) rfl (hl.1.trans F.1.2.2.1.symm) rfl d hR.1 (by show 2 * 0 + _ + 12 ≤ _; omega) (kk H locs ls hw0 hS0 hl)
theorem q_min {index : Nat} (F : hF p l s m args meth c cc nL Ts own g) (hlk : Cond.methodLink own index Lib.Math.min.name ∈ wsL_law) {x y : Int32} (d : decode cc pc = .ok (.invokestatic index, 3)) (hR : 1 ≤ R.frames ∧ (st.map fun v => v.category).sum + 13 ≤ R.locals) (hf : cells ≤ R.cells ∧ slots ≤ R.slots)
    (kk : V p l e R s m args below meth c nL g X Q S cells slots lv (pc + 3) (.int (if y < x then y else x) :: st)) : V p l e R s m args below meth c nL g X Q S cells slots lv pc (.int y :: .int x :: st) := fun H locs ls hw0 hS0 hl =>
  va_mmin F.1.1 F.1.2.1 (F.1.2.2.1.trans hl.1.symm) F.1.2.2.2.1 (hk_word F.2.1 hlk args) (hk_word F.2.1 (List.mem_of_getElem? (i := 323) (by decide +kernel)) args) (hk_word F.2.1 (List.mem_of_getElem? (i := 324) (by decide +kernel)) args) (hk_word F.2.1 (List.mem_of_getElem? (i := 325) (by decide +kernel)) args) hR.1 hR.2 hf.1 hf.2 d (kk H locs ls hw0 hS0 hl)
theorem isO_nO (S : hS) (k q : Nat) : isO (nO S k q) q k := ⟨by rw [sL_nO]; exact List.mem_append_right _ List.mem_cons_self, va_up_self _ _ _⟩
theorem isO_nA (S : hS) (k q n : Nat) : isO (nA S k q n) q k := ⟨by rw [sL_nA]; exact List.mem_append_right _ List.mem_cons_self, va_up_self _ _ _⟩
theorem isO_nO' {a k' k q : Nat} {S : hS} (h : isO S a k') (hq : q ∉ sL S) : isO (nO S k q) a k' := ⟨by rw [sL_nO]; exact List.mem_append_left _ h.1, by rw [sK_nO, if_neg (fun z : a = q => hq (by rw [← z]; exact h.1))]; exact h.2⟩
theorem isO_nA' {a k' k q n : Nat} {S : hS} (h : isO S a k') (hq : q ∉ sL S) : isO (nA S k q n) a k' := ⟨by rw [sL_nA]; exact List.mem_append_left _ h.1, by rw [sK_nA, if_neg (fun z : a = q => hq (by rw [← z]; exact h.1))]; exact h.2⟩
/-- a truth value as an int -/
def b2 (b : Bool) : Int32 := if b then 1 else 0
theorem b2_0 {b : Bool} : b2 b = 0 ↔ b = false := by cases b <;> decide
theorem b2_t : b2 true = 1 := rfl
theorem b2_f : b2 false = 0 := rfl
theorem b2_nar (b : Bool) : narrow .boolean (.int (b2 b)) = .int (b2 b) := by cases b <;> rfl
theorem b2_isB (b : Bool) : isB (b2 b) := by cases b; exact Or.inl rfl; exact Or.inr rfl
theorem isB_b2 {x : Int32} (h : isB x) : x = b2 (x != 0) := by rcases h with rfl | rfl <;> rfl
end HMisc
end
section
/-! WHAT THE METHODS ANSWER. The state is told by the model's own numbers: sc its scalars, M its rows (5 keys, 6 marks, 7 seen, 8 ends, 9 salts, 10 hashes, 11 hash ports, 12 sizes, 13 names, 14 places, 15 ports, 16 denied; 18 authorities, 19 keys, 20 names, 21 places, 22 serials, 23 firsts, 24 lasts of certificates; 26, 27, 28 spans) -/
def anyN (f : Nat → Bool) : Nat → Bool
  | 0 => false
  | k + 1 => anyN f k || f k
theorem anyN_mono {f : Nat → Bool} {k n : Nat} (h : anyN f k = true) (hkn : k ≤ n) : anyN f n = true := by
  induction n with
  | zero =>
    have : k = 0 := by omega
    subst this
    exact h
  | succ n ih =>
    by_cases hk : k = n + 1
    · subst hk; exact h
    · unfold anyN
      rw [ih (by omega)]
      rfl
theorem anyN_iff {f : Nat → Bool} {n : Nat} : anyN f n = true ↔ ∃ k, k < n ∧ f k = true := by
  induction n with
  | zero => simp [anyN]
  | succ n ih =>
    unfold anyN
    rw [Bool.or_eq_true, ih]
    constructor
    · rintro (⟨k, h1, h2⟩ | h)
      · exact ⟨k, by omega, h2⟩
      · exact ⟨n, by omega, h⟩
    · rintro ⟨k, h1, h2⟩
      by_cases hk : k = n
      · subst hk; exact Or.inr h2
      · exact Or.inl ⟨k, by omega, h2⟩
theorem anyN_congr {f f' : Nat → Bool} {n : Nat} (h : ∀ k, k < n → f k = f' k) : anyN f n = anyN f' n := by
  induction n with
  | zero => rfl
  | succ n ih =>
    unfold anyN
    rw [ih (fun k hk => h k (by omega)), h n (by omega)]
theorem anyN_false {f : Nat → Bool} {n : Nat} : anyN f n = false ↔ ∀ k, k < n → f k = false := by
  rw [← Bool.not_eq_true, anyN_iff]
  constructor
  · intro h k hk
    cases hf : f k with
    | false => rfl
    | true => exact absurd ⟨k, hk, hf⟩ h
  · rintro h ⟨k, hk, hf⟩
    rw [h k hk] at hf
    cases hf
def cntN (f : Nat → Bool) : Nat → Int32
  | 0 => 0
  | k + 1 => cntN f k + b2 (f k)
/-- the place that a loop down to 0 stands at: k - 1 -/
def dN : Nat → Int32
  | 0 => -1
  | k + 1 => nI k
theorem dN_dec (k : Nat) : dN (k + 1) + Int32.ofInt (-1) = dN k := by
  cases k with
  | zero => rfl
  | succ k =>
    have h := pk_m1 k
    exact h
theorem dN_0 : dN 0 < 0 := by decide
theorem dN_s {k : Nat} (h : k < 2 ^ 31) : ¬ dN (k + 1) < 0 := nI_pos h
def lk (set : Int32) : Nat → Int32 → Int32 → Bool
  | 0, _, _ => true
  | n + 1, one, two => (decide (((set >>> (nI n &&& 31)) &&& 1) = 0) || decide (one % 10 = two % 10)) && lk set n (one / 10) (two / 10)
def like (set one two : Int32) : Bool := lk set 4 one two
theorem and1 (x : Int32) : (x &&& 1) = 0 ∨ (x &&& 1) = 1 := by
  obtain ⟨j, hj, h⟩ := pk_andE x (m := 1) 1 (by decide)
  have : j = 0 ∨ j = 1 := by omega
  rcases this with rfl | rfl
  · exact Or.inl h
  · exact Or.inr h
theorem and1_iff (x : Int32) : (x &&& 1) = 1 ↔ ¬ (x &&& 1) = 0 := by
  rcases and1 x with h | h <;> rw [h] <;> decide
def hsh (name salt : Int32) : Int32 := (31 * name + 17 * salt + 5) % 499
def en (day e : Int32) : Bool := decide (¬ e = -1) && decide (e ≤ day)
/-- does the pattern k of line i fit; is it denied -/
def ft (M : Nat → Nat → Int32) (i : Nat) (name port : Int32) (k : Nat) : Bool := decide (M 15 (4 * i + k) = port) && like (M 14 (4 * i + k)) (M 13 (4 * i + k)) name
def dn (M : Nat → Nat → Int32) (i : Nat) (k : Nat) : Bool := decide (¬ M 16 (4 * i + k) = 0)
def mtch (f d : Nat → Bool) (n : Nat) : Bool := anyN (fun k => f k && !d k) n && !anyN (fun k => f k && d k) n
def sz (M : Nat → Nat → Int32) (i : Nat) : Nat := (M 12 i).toNatClampNeg
def mt (M : Nat → Nat → Int32) (i : Nat) (name port : Int32) : Bool := if M 9 i = -1 then mtch (ft M i name port) (dn M i) (sz M i) else decide (M 11 i = port) && decide (M 10 i = hsh name (M 9 i))
def jmF (mk ke ed day key au : Int32) : Int32 := if mk = 1 ∧ (ke = key ∨ ke = au) then 0 else if ¬ (mk = 0 ∧ en day ed = false) then 5 else if ke = key then 2 else if ke % 3 = key % 3 then 3 else 4
def jm (day : Int32) (M : Nat → Nat → Int32) (i : Nat) (key au : Int32) : Int32 := jmF (M 6 i) (M 5 i) (M 8 i) day key au
def imin (x y : Int32) : Int32 := if y < x then y else x
def jb (day : Int32) (M : Nat → Nat → Int32) (name port key au : Int32) : Nat → Int32
  | 0 => 5
  | i + 1 => if mt M i name port then imin (jb day M name port key au i) (jm day M i key au) else jb day M name port key au i
/-- a line with a mark and a key, that has not ended or whether or not, matches -/
def ln (day : Int32) (M : Nat → Nat → Int32) (mark key : Int32) (isAny : Bool) (name port : Int32) (i : Nat) : Bool := decide (M 6 i = mark) && decide (M 5 i = key) && (isAny || !en day (M 8 i)) && mt M i name port
/-- a span that holds the certificate c -/
def sp (M : Nat → Nat → Int32) (c k : Nat) : Bool := decide (M 26 k = M 18 c) && (decide (M 27 k ≤ M 22 c) && decide (M 22 c ≤ M 28 k))
def rv (M : Nat → Nat → Int32) (ns c : Nat) : Bool := anyN (sp M c) ns
def gd (day : Int32) (M : Nat → Nat → Int32) (n ns c : Nat) (name port : Int32) : Bool :=
  like (M 21 c) (M 20 c) name && (decide (M 23 c ≤ day) && decide (day ≤ M 24 c)) && !rv M ns c && anyN (ln day M 2 (M 18 c) false name port) n
/-- the judgement by the model -/
def its (M : Nat → Nat → Int32) (i : Nat) (key : Int32) : Int32 := if M 5 i = key then 2 else if M 5 i % 3 = key % 3 then 3 else 4
def bst (day : Int32) (M : Nat → Nat → Int32) (name port key : Int32) : Nat → Int32
  | 0 => 5
  | i + 1 => if (decide (M 6 i = 0) && !en day (M 8 i) && mt M i name port) = true ∧ its M i key < bst day M name port key i then its M i key else bst day M name port key i
def jg (day : Int32) (M : Nat → Nat → Int32) (n ns : Nat) (name port key : Int32) (co : Option Nat) : Int32 :=
  if anyN (ln day M 1 key true name port) n = true ∨ (∃ c, co = some c ∧ anyN (ln day M 1 (M 18 c) true name port) n = true) then 0
  else if ∃ c, co = some c ∧ M 19 c = key ∧ gd day M n ns c name port = true then 1 else bst day M name port key n
/-- the first of n, as far as the last r are looked at -/
def fd (f : Nat → Bool) (n : Nat) : Nat → Int32
  | 0 => -1
  | r + 1 => if f (n - (r + 1)) then nI (n - (r + 1)) else fd f n r
def lo (f : Nat → Bool) : Nat → Int64
  | 0 => 0
  | i + 1 => lo f i ||| (if f i then (1 : Int64) <<< ((nI i).toInt64 &&& 63) else 0)
/-- A LINE of the class at a, with its row of patterns at pa and the patterns at pt k, is the line i of M, with n patterns -/
def lnR (S : hS) (a pa : Nat) (pt : Nat → Nat) (M : Nat → Nat → Int32) (i n : Nat) : Prop :=
  (sF S 10 a = M 6 i ∧ sF S 11 a = M 5 i ∧ sF S 12 a = M 7 i ∧ sF S 13 a = M 8 i) ∧ (sF S 15 a = nI n ∧ M 12 i = nI n ∧ n ≤ 4) ∧
  ((sF S 16 a = 1 ∧ ¬ M 9 i = -1 ∧ sF S 18 a = M 9 i ∧ sF S 17 a = M 10 i ∧ sF S 19 a = M 11 i) ∨ (sF S 16 a = 0 ∧ M 9 i = -1)) ∧
  ∀ k, k < n → sB S pa k = some (pt k) ∧ isO S (pt k) 2 ∧ sF S 20 (pt k) = M 13 (4 * i + k) ∧ sF S 21 (pt k) = M 14 (4 * i + k) ∧ sF S 22 (pt k) = M 15 (4 * i + k) ∧ sF S 23 (pt k) = M 16 (4 * i + k)
/-- .. its cells -/
def lnG (S : hS) (a pa : Nat) : Prop := isO S a 1 ∧ sR S 14 a = some pa ∧ isO S pa 10 ∧ sN S pa = 4
theorem sz_of {S : hS} {a pa : Nat} {pt : Nat → Nat} {M : Nat → Nat → Int32} {i n : Nat} (h : lnR S a pa pt M i n) : sz M i = n := by
  unfold sz
  rw [h.2.1.2.1]
  exact nI_clamp (by have := h.2.1.2.2; omega)
theorem lk_no {set one two : Int32} {n : Nat} (h1 : ((set >>> (dN (n + 1) &&& 31)) &&& 1) = 1) (h2 : ¬ one % 10 = two % 10) : lk set (n + 1) one two = false := by
  have h3 : ¬ ((set >>> (nI n &&& 31)) &&& 1) = 0 := (and1_iff _).mp h1
  unfold lk
  rw [decide_eq_false h3, decide_eq_false h2]
  rfl
theorem lk_yes0 {set one two : Int32} {n : Nat} (h1 : ¬ ((set >>> (dN (n + 1) &&& 31)) &&& 1) = 1) : lk set (n + 1) one two = lk set n (one / 10) (two / 10) := by
  have h3 : ((set >>> (nI n &&& 31)) &&& 1) = 0 := Decidable.byContradiction fun h => h1 ((and1_iff _).mpr h)
  rw [lk, decide_eq_true h3]
  rfl
theorem lk_yes1 {set one two : Int32} {n : Nat} (h2 : one % 10 = two % 10) : lk set (n + 1) one two = lk set n (one / 10) (two / 10) := by
  rw [lk, decide_eq_true h2, Bool.or_true, Bool.true_and]
theorem nI_inc (j : Nat) : nI j + Int32.ofInt 1 = nI (j + 1) := nI_1 j
/-- a loop's bound: passed, not passed -/
theorem gT {x y : Int32} {n j : Nat} (hx : x = nI n) (hy : y = nI j) (h : n ≤ j) (hb : j < 2 ^ 31) : ¬ ¬ x ≤ y := by
  subst hx; subst hy
  exact not_not_intro (nI_le h hb)
theorem gF {x y : Int32} {n j : Nat} (hx : x = nI n) (hy : y = nI j) (h : j < n) (hb : n < 2 ^ 31) : ¬ x ≤ y := by
  subst hx; subst hy
  exact nI_ge h hb
theorem mt_den {f d : Nat → Bool} {n k : Nat} (hk : k < n) (h1 : f k = true) (h2 : d k = true) : mtch f d n = false := by
  unfold mtch
  have h : anyN (fun k => f k && d k) n = true := anyN_iff.mpr ⟨k, hk, by simp [h1, h2]⟩
  rw [h]
  simp
theorem mt_end {f d : Nat → Bool} {n : Nat} (h : anyN (fun k => f k && d k) n = false) : mtch f d n = anyN (fun k => f k && !d k) n := by
  unfold mtch
  rw [h]
  simp
/-- the class's cells: the object h, its rows, the lines at ad i (spare ones too), their rows of patterns -/
def cG (S : hS) (h bk ca sa : Nat) (ad pa : Nat → Nat) : Prop :=
  isO S h 4 ∧ (sR S 40 h = some bk ∧ isO S bk 9 ∧ sN S bk = 40) ∧ (sR S 42 h = some ca ∧ isO S ca 8 ∧ sN S ca = 20) ∧ (sR S 44 h = some sa ∧ isO S sa 11 ∧ sN S sa = 20) ∧
  (∀ i, i < 40 → sB S bk i = some (ad i) ∧ lnG S (ad i) (pa (ad i))) ∧ (∀ i j, i < 40 → j < 40 → ad i = ad j → i = j) ∧ (∀ i j, i < 40 → j < 40 → pa (ad i) = pa (ad j) → i = j)
def crR (S : hS) (a : Nat) (M : Nat → Nat → Int32) (i : Nat) : Prop := isO S a 0 ∧ sF S 0 a = M 18 i ∧ sF S 1 a = M 19 i ∧ sF S 2 a = M 20 i ∧ sF S 3 a = M 21 i ∧ sF S 4 a = M 22 i ∧ sF S 5 a = M 23 i ∧ sF S 6 a = M 24 i
def spR (S : hS) (a : Nat) (M : Nat → Nat → Int32) (i : Nat) : Prop := isO S a 3 ∧ sF S 30 a = M 26 i ∧ sF S 31 a = M 27 i ∧ sF S 32 a = M 28 i
/-- what they hold: the state sc, M with n lines, nc certificates, ns spans -/
def cL (S : hS) (ad pa : Nat → Nat) (M : Nat → Nat → Int32) (n : Nat) : Prop := ∀ i, i < n → ∃ (pt : Nat → Nat) (k : Nat), lnR S (ad i) (pa (ad i)) pt M i k
def cX (S : hS) (h ca sa : Nat) (sc : Nat → Int32) (M : Nat → Nat → Int32) (nc ns : Nat) : Prop :=
  (sF S 43 h = nI nc ∧ sc 17 = nI nc ∧ nc ≤ 20) ∧ (sF S 45 h = nI ns ∧ sc 25 = nI ns ∧ ns ≤ 20) ∧ (sF S 46 h = sc 1 ∧ sF S 47 h = sc 2 ∧ sF S 48 h = sc 3 ∧ isB (sc 3)) ∧ (sF S 51 h = sc 29 ∧ (¬ sc 29 = -1 → sF S 49 h = sc 30 ∧ sF S 50 h = sc 31)) ∧
  (∀ i, i < nc → ∃ a, sB S ca i = some a ∧ crR S a M i) ∧ (∀ i, i < ns → ∃ a, sB S sa i = some a ∧ spR S a M i)
def cN (S : hS) (h : Nat) (sc : Nat → Int32) (n : Nat) : Prop := sF S 41 h = nI n ∧ sc 4 = nI n ∧ n ≤ 40
def cC (S : hS) (h ca sa : Nat) (ad pa : Nat → Nat) (sc : Nat → Int32) (M : Nat → Nat → Int32) (n nc ns : Nat) : Prop := cN S h sc n ∧ cL S ad pa M n ∧ cX S h ca sa sc M nc ns
theorem pfit_ft {S : hS} {a pa : Nat} {pt : Nat → Nat} {M : Nat → Nat → Int32} {i n k : Nat} {name port : Int32} (h : lnR S a pa pt M i n) (hk : k < n) : (decide (sF S 22 (pt k) = port) && like (sF S 21 (pt k)) (sF S 20 (pt k)) name) = ft M i name port k := by
  obtain ⟨-, -, h20, h21, h22, -⟩ := h.2.2.2 k hk
  unfold ft
  rw [h20, h21, h22]
theorem den_dn {S : hS} {a pa : Nat} {pt : Nat → Nat} {M : Nat → Nat → Int32} {i n k : Nat} (h : lnR S a pa pt M i n) (hk : k < n) : dn M i k = decide (¬ sF S 23 (pt k) = 0) := by
  obtain ⟨-, -, -, -, -, h23⟩ := h.2.2.2 k hk
  unfold dn
  rw [h23]
theorem mt_hash {S : hS} {a pa : Nat} {pt : Nat → Nat} {M : Nat → Nat → Int32} {i n : Nat} {name port : Int32} (hL : lnR S a pa pt M i n) (c : ¬ sF S 16 a = 0) : mt M i name port = (decide (port = sF S 19 a) && decide (hsh name (sF S 18 a) = sF S 17 a)) := by
  rcases hL.2.2.1 with ⟨-, h9, h18, h17, h19⟩ | ⟨h, -⟩
  · unfold mt
    rw [if_neg h9, h18, h17, h19]
    rw [show decide (M 11 i = port) = decide (port = M 11 i) from decide_eq_decide.mpr eq_comm, show decide (M 10 i = hsh name (M 9 i)) = decide (hsh name (M 9 i) = M 10 i) from decide_eq_decide.mpr eq_comm]
  · exact absurd h c
/-- the class's judgement -/
def jo (day : Int32) (M : Nat → Nat → Int32) (n ns : Nat) (name port key : Int32) (c : Nat) : Int32 :=
  if ¬ jb day M name port key (M 18 c) n = 0 ∧ M 19 c = key ∧ gd day M n ns c name port = true then 1 else jb day M name port key (M 18 c) n
theorem cL_ln {S : hS} {a pa : Nat} {pt : Nat → Nat} {M : Nat → Nat → Int32} {i k : Nat} {day key : Int32} {name port : Int32} (hL : lnR S a pa pt M i k) : ln day M 2 key false name port i = (decide (sF S 10 a = 2) && decide (sF S 11 a = key) && !en day (sF S 13 a) && mt M i name port) := by
  unfold ln
  rw [hL.1.1, hL.1.2.1, hL.1.2.2.2]
  rfl
theorem sp_of {S : hS} {a cr c k : Nat} {M : Nat → Nat → Int32} (h : spR S a M k) (hc : crR S cr M c) : sp M c k = (decide (sF S 30 a = sF S 0 cr) && (decide (sF S 31 a ≤ sF S 4 cr) && decide (sF S 4 cr ≤ sF S 32 a))) := by
  unfold sp
  rw [h.2.1, h.2.2.1, h.2.2.2, hc.2.1, hc.2.2.2.2.2.1]
theorem anyN_s {f : Nat → Bool} {j : Nat} (h : anyN f j = false) (h2 : f j = false) : anyN f (j + 1) = false := by
  rw [anyN, h, h2]; rfl
theorem anyN_t {f : Nat → Bool} {j n : Nat} (hj : j < n) (h2 : f j = true) : anyN f n = true := anyN_iff.mpr ⟨j, hj, h2⟩
theorem b2_n0 {b : Bool} (h : ¬ b2 b = 0) : b = true := by cases b; exact absurd rfl h; rfl
theorem jb_s0 {day : Int32} {M : Nat → Nat → Int32} {name port key au : Int32} {i : Nat} (h : mt M i name port = false) : jb day M name port key au (i + 1) = jb day M name port key au i := by
  rw [jb, h]; rfl
theorem jb_s1 {day : Int32} {M : Nat → Nat → Int32} {name port key au : Int32} {i : Nat} (h : mt M i name port = true) : jb day M name port key au (i + 1) = imin (jb day M name port key au i) (jm day M i key au) := by
  rw [jb, h]; rfl
/-! arguments in their ranges; which exception a call throws -/
def inR (v lo hi : Int32) : Bool := decide (lo ≤ v) && decide (v ≤ hi)
def okK (v : Int32) : Bool := inR v 0 199
def okN (v : Int32) : Bool := inR v 0 9999
def okP (v : Int32) : Bool := inR v 0 3
def okNP (name port : Int32) : Bool := okN name && okP port
def inL (i : Int32) (n : Nat) : Bool := decide (0 ≤ i) && decide (i < nI n)
def xIA : String := "java/lang/IllegalArgumentException"
def xIS : String := "java/lang/IllegalStateException"
def xIO : String := "java/lang/IndexOutOfBoundsException"
def pe1 (a : Bool) (E1 : String) : String → Prop := fun E => a = false ∧ E = E1
def pe2 (a b : Bool) (E1 E2 : String) : String → Prop := fun E => (a = false ∧ E = E1) ∨ (a = true ∧ b = false ∧ E = E2)
def pe3 (a b c : Bool) (E1 E2 E3 : String) : String → Prop := fun E => (a = false ∧ E = E1) ∨ (a = true ∧ b = false ∧ E = E2) ∨ (a = true ∧ b = true ∧ c = false ∧ E = E3)
theorem inL_get {i : Int32} {n : Nat} (h : inL i n = true) (hn : n < 2 ^ 31) : ∃ j : Nat, j < n ∧ i = nI j := by
  unfold inL at h
  rw [Bool.and_eq_true, decide_eq_true_eq, decide_eq_true_eq] at h
  obtain ⟨j, hj, rfl⟩ := nI_of (Int32.not_lt.mpr h.1)
  refine ⟨j, ?_, rfl⟩
  exact (nI_ltI hj hn).mp h.2
theorem inL_nI {j n : Nat} (h : j < n) (hn : n < 2 ^ 31) : inL (nI j) n = true := by
  unfold inL
  rw [decide_eq_true (nI_pos' (by omega)), decide_eq_true (nI_lt h hn)]
  rfl
theorem inR_f1 {v lo hi : Int32} (h : v < lo) : inR v lo hi = false := by unfold inR; rw [decide_eq_false (Int32.not_le.mpr h)]; rfl
theorem inR_f2 {v lo hi : Int32} (h : ¬ v ≤ hi) : inR v lo hi = false := by unfold inR; rw [decide_eq_false h, Bool.and_false]
theorem inR_t {v lo hi : Int32} (h1 : ¬ v < lo) (h2 : v ≤ hi) : inR v lo hi = true := by unfold inR; rw [decide_eq_true (Int32.not_lt.mp h1), decide_eq_true h2]; rfl
theorem inL_f1 {v : Int32} {n : Nat} (h : v < 0) : inL v n = false := by unfold inL; rw [decide_eq_false (Int32.not_le.mpr h)]; rfl
theorem inL_f2 {v : Int32} {n : Nat} (h : ¬ v < nI n) : inL v n = false := by unfold inL; rw [decide_eq_false h, Bool.and_false]
theorem inL_t {v : Int32} {n : Nat} (h1 : ¬ v < 0) (h2 : v < nI n) : inL v n = true := by unfold inL; rw [decide_eq_true (Int32.not_lt.mp h1), decide_eq_true h2]; rfl
theorem fd_s {f : Nat → Bool} {n j r : Nat} (h : j + (r + 1) = n) (hf : f j = false) : fd f n (r + 1) = fd f n r := by
  rw [fd, show n - (r + 1) = j by omega, hf]; rfl
theorem fd_t {f : Nat → Bool} {n j r : Nat} (h : j + (r + 1) = n) (hf : f j = true) : fd f n (r + 1) = nI j := by
  rw [fd, show n - (r + 1) = j by omega, hf]; rfl
theorem lo_s {f : Nat → Bool} {j : Nat} (hf : f j = false) : lo f (j + 1) = lo f j := by
  rw [lo, hf]
  show lo f j ||| 0 = lo f j
  exact Int64.or_zero
theorem lo_t {f : Nat → Bool} {j : Nat} (hf : f j = true) : lo f (j + 1) = lo f j ||| ((1 : Int64) <<< ((nI j).toInt64 &&& 63)) := by
  rw [lo, hf]; rfl
end
section
set_option maxHeartbeats 4000000 in
set_option maxRecDepth 100000 in
/-- isSameAt -/
theorem c_X4_isSameAt {l : Launch} {g : hG} {X : va_W} {S : hS} {pl o t : Int32} : hMet l yX4_isSameAt wsX4_isSameAt rm_X4_isSameAt g X S [.int pl, .int o, .int t] (pI (b2 (like pl o t)) S) := by
  refine h_start (maxL := 7) (ret := (some .boolean)) (by decide) rfl (Nat.le_of_ble_eq_true rfl) ?_
  intro p e s m args below meth c F hr hinit
  refine q_iload_n F 1 dX4_isSameAt_0 rfl rfl ?_
  refine q_istore_n F 3 dX4_isSameAt_1 rfl (by decide) rfl ?_
  refine q_iload_n F 2 dX4_isSameAt_2 rfl rfl ?_
  refine q_istore F dX4_isSameAt_3 (by decide) rfl ?_
  refine q_iconst F dX4_isSameAt_5 hc_3 ?_
  refine q_istore F dX4_isSameAt_6 (by decide) rfl ?_
  have L : ∀ (k : Nat) (a b : Int32), k ≤ 4 → lk pl k a b = like pl o t → V p l e rm_X4_isSameAt s m args below meth c 7 g X (MQ below (hQ g X (pI (b2 (like pl o t)) S)) args s rm_X4_isSameAt.cells rm_X4_isSameAt.slots (hA g)) S 0 0 [(0, .int pl), (1, .int o), (2, .int t), (3, .int a), (4, .int b), (5, .int (dN k))] 8 [] := by
    intro k
    induction k with
    | zero =>
      intro a b hk hL
      refine q_iload F dX4_isSameAt_8 rfl ?_
      refine q_if_lt F 67 dX4_isSameAt_10 rfl (fun c10 => ?_) (fun c10 => ?_)
      · refine q_iconst F dX4_isSameAt_67 hc_1 ?_
        exact (q_reti F hr rfl dX4_isSameAt_68 (Nat.le_of_ble_eq_true rfl) (Nat.le_of_ble_eq_true rfl) ⟨by rw [← hL]; rfl, rfl⟩)
      exact absurd c10 (by decide)
    | succ k ih =>
      intro a b hk hL
      refine q_iload F dX4_isSameAt_8 rfl ?_
      refine q_if_lt F 67 dX4_isSameAt_10 rfl (fun c10 => ?_) (fun c10 => ?_)
      · exact absurd c10 (dN_s (by omega))
      refine q_iload_n F 0 dX4_isSameAt_13 rfl rfl ?_
      refine q_iload F dX4_isSameAt_14 rfl ?_
      refine q_ishr F dX4_isSameAt_16 ?_
      refine q_iconst F dX4_isSameAt_17 hc_1 ?_
      refine q_iand F dX4_isSameAt_18 ?_
      refine q_iconst F dX4_isSameAt_19 hc_1 ?_
      refine q_icmp_ne F 27 dX4_isSameAt_20 rfl (fun c20 => ?_) (fun c20 => ?_)
      · refine q_iconst F dX4_isSameAt_27 hc_0 ?_
        refine q_istore F dX4_isSameAt_28 (by decide) rfl ?_
        refine q_iload F dX4_isSameAt_30 rfl ?_
        refine q_if_eq F 49 dX4_isSameAt_32 rfl (fun c32 => ?_) (fun c32 => ?_)
        · refine q_iload_n F 3 dX4_isSameAt_49 rfl rfl ?_
          refine q_bipush (v := 10) F dX4_isSameAt_50 (by decide) ?_
          refine q_idiv F dX4_isSameAt_52 (by decide) ?_
          refine q_istore_n F 3 dX4_isSameAt_53 rfl (by decide) rfl ?_
          refine q_iload F dX4_isSameAt_54 rfl ?_
          refine q_bipush (v := 10) F dX4_isSameAt_56 (by decide) ?_
          refine q_idiv F dX4_isSameAt_58 (by decide) ?_
          refine q_istore F dX4_isSameAt_59 (by decide) rfl ?_
          refine q_iinc F (dN k) dX4_isSameAt_61 rfl (dN_dec k) (by decide) rfl ?_
          refine q_goto F 8 dX4_isSameAt_64 rfl ?_
          exact q_to (ih _ _ (by omega) (by rw [← hL]; first | exact (lk_yes0 c20).symm | exact (lk_yes1 c44).symm)) ⟨rfl, rfl, rfl, rfl, rfl, rfl, trivial⟩
        exact absurd c32 (by decide)
      refine q_iconst F dX4_isSameAt_23 hc_1 ?_
      refine q_goto F 28 dX4_isSameAt_24 rfl ?_
      refine q_istore F dX4_isSameAt_28 (by decide) rfl ?_
      refine q_iload F dX4_isSameAt_30 rfl ?_
      refine q_if_eq F 49 dX4_isSameAt_32 rfl (fun c32 => ?_) (fun c32 => ?_)
      · exact absurd c32 (by decide)
      refine q_iload_n F 3 dX4_isSameAt_35 rfl rfl ?_
      refine q_bipush (v := 10) F dX4_isSameAt_36 (by decide) ?_
      refine q_irem F dX4_isSameAt_38 (by decide) ?_
      refine q_iload F dX4_isSameAt_39 rfl ?_
      refine q_bipush (v := 10) F dX4_isSameAt_41 (by decide) ?_
      refine q_irem F dX4_isSameAt_43 (by decide) ?_
      refine q_icmp_eq F 49 dX4_isSameAt_44 rfl (fun c44 => ?_) (fun c44 => ?_)
      · refine q_iload_n F 3 dX4_isSameAt_49 rfl rfl ?_
        refine q_bipush (v := 10) F dX4_isSameAt_50 (by decide) ?_
        refine q_idiv F dX4_isSameAt_52 (by decide) ?_
        refine q_istore_n F 3 dX4_isSameAt_53 rfl (by decide) rfl ?_
        refine q_iload F dX4_isSameAt_54 rfl ?_
        refine q_bipush (v := 10) F dX4_isSameAt_56 (by decide) ?_
        refine q_idiv F dX4_isSameAt_58 (by decide) ?_
        refine q_istore F dX4_isSameAt_59 (by decide) rfl ?_
        refine q_iinc F (dN k) dX4_isSameAt_61 rfl (dN_dec k) (by decide) rfl ?_
        refine q_goto F 8 dX4_isSameAt_64 rfl ?_
        exact q_to (ih _ _ (by omega) (by rw [← hL]; first | exact (lk_yes0 c20).symm | exact (lk_yes1 c44).symm)) ⟨rfl, rfl, rfl, rfl, rfl, rfl, trivial⟩
      refine q_iconst F dX4_isSameAt_47 hc_0 ?_
      exact (q_reti F hr rfl dX4_isSameAt_48 (Nat.le_of_ble_eq_true rfl) (Nat.le_of_ble_eq_true rfl) ⟨by rw [← hL, lk_no c20 c44]; rfl, rfl⟩)
  exact q_to (L 4 o t (Nat.le_refl _) rfl) ⟨rfl, rfl, rfl, rfl, rfl, rfl, trivial⟩

def pfit (S : hS) (a : Nat) (name port : Int32) : Bool := decide (sF S 22 a = port) && like (sF S 21 a) (sF S 20 a) name
set_option maxHeartbeats 4000000 in
set_option maxRecDepth 100000 in
theorem c_X2_fits {l : Launch} {g : hG} {X : va_W} {S : hS} {a : Nat} {name port : Int32} (hO2 : isO S a 2) : hMet l yX2_fits wsX2_fits rm_X2_fits g X S [.ref a, .int name, .int port] (pI (b2 (pfit S a name port)) S) := by
  refine h_start (maxL := 3) (ret := (some .boolean)) (by decide) rfl (Nat.le_of_ble_eq_true rfl) ?_
  intro p e s m args below meth c F hr hinit
  refine q_aload_n F 0 dX2_fits_0 rfl rfl ?_
  refine qg_X2_16 F hO2 dX2_fits_1 ?_
  refine q_iload_n F 2 dX2_fits_4 rfl rfl ?_
  refine q_icmp_ne F 27 dX2_fits_5 rfl (fun c5 => ?_) (fun c5 => ?_)
  · refine q_iconst F dX2_fits_27 hc_0 ?_
    exact (q_reti F hr rfl dX2_fits_28 (Nat.le_of_ble_eq_true rfl) (Nat.le_of_ble_eq_true rfl) ⟨by simp_all [pfit, b2], rfl⟩)
  refine q_aload_n F 0 dX2_fits_8 rfl rfl ?_
  refine qg_X2_13 F hO2 dX2_fits_9 ?_
  refine q_aload_n F 0 dX2_fits_12 rfl rfl ?_
  refine qg_X2_7 F hO2 dX2_fits_13 ?_
  refine q_iload_n F 1 dX2_fits_16 rfl rfl ?_
  refine q_callSN_i F (c_X4_isSameAt) gX2_fits_X4_isSameAt_n23 rfl hd_X4_isSameAt ⟨Nat.le_of_ble_eq_true rfl, Nat.le_of_ble_eq_true rfl⟩ (List.mem_of_getElem? (i := 2) (by decide +kernel)) (List.mem_of_getElem? (i := 1) rfl) (List.mem_of_getElem? (i := 334) (by decide +kernel)) rfl rfl (Nat.le_of_ble_eq_true rfl) dX2_fits_17 ⟨Nat.le_of_ble_eq_true rfl, Nat.le_of_ble_eq_true rfl⟩ ?_
  refine q_if_eq F 27 dX2_fits_20 rfl (fun c20 => ?_) (fun c20 => ?_)
  · refine q_iconst F dX2_fits_27 hc_0 ?_
    exact (q_reti F hr rfl dX2_fits_28 (Nat.le_of_ble_eq_true rfl) (Nat.le_of_ble_eq_true rfl) ⟨by simp_all [pfit, b2], rfl⟩)
  refine q_iconst F dX2_fits_23 hc_1 ?_
  refine q_goto F 28 dX2_fits_24 rfl ?_
  exact (q_reti F hr rfl dX2_fits_28 (Nat.le_of_ble_eq_true rfl) (Nat.le_of_ble_eq_true rfl) ⟨by simp_all [pfit, b2], rfl⟩)

set_option maxHeartbeats 4000000 in
set_option maxRecDepth 100000 in
theorem c_X1_hashOf {l : Launch} {g : hG} {X : va_W} {S : hS} {name salt : Int32} : hMet l yX1_hashOf wsX1_hashOf rm_X1_hashOf g X S [.int name, .int salt] (pI (hsh name salt) S) := by
  refine h_start (maxL := 2) (ret := (some .int)) (by decide) rfl (Nat.le_of_ble_eq_true rfl) ?_
  intro p e s m args below meth c F hr hinit
  refine q_bipush (v := 31) F dX1_hashOf_0 (by decide) ?_
  refine q_iload_n F 0 dX1_hashOf_2 rfl rfl ?_
  refine q_imul F dX1_hashOf_3 ?_
  refine q_bipush (v := 17) F dX1_hashOf_4 (by decide) ?_
  refine q_iload_n F 1 dX1_hashOf_6 rfl rfl ?_
  refine q_imul F dX1_hashOf_7 ?_
  refine q_iadd F dX1_hashOf_8 ?_
  refine q_iconst F dX1_hashOf_9 hc_5 ?_
  refine q_iadd F dX1_hashOf_10 ?_
  refine q_sipush (v := 499) F dX1_hashOf_11 (by decide) ?_
  refine q_irem F dX1_hashOf_14 (by decide) ?_
  exact (q_reti F hr rfl dX1_hashOf_15 (Nat.le_of_ble_eq_true rfl) (Nat.le_of_ble_eq_true rfl) ⟨rfl, rfl⟩)

set_option maxHeartbeats 4000000 in
set_option maxRecDepth 100000 in
theorem c_X1_hasEnded {l : Launch} {g : hG} {X : va_W} {S : hS} {a : Nat} {day : Int32} (hO1 : isO S a 1) : hMet l yX1_hasEnded wsX1_hasEnded rm_X1_hasEnded g X S [.ref a, .int day] (pI (b2 (en day (sF S 13 a))) S) := by
  refine h_start (maxL := 2) (ret := (some .boolean)) (by decide) rfl (Nat.le_of_ble_eq_true rfl) ?_
  intro p e s m args below meth c F hr hinit
  refine q_aload_n F 0 dX1_hasEnded_0 rfl rfl ?_
  refine qg_X1_27 F hO1 dX1_hasEnded_1 ?_
  refine q_iconst F dX1_hasEnded_4 hc_m1 ?_
  refine q_icmp_eq F 20 dX1_hasEnded_5 rfl (fun c5 => ?_) (fun c5 => ?_)
  · refine q_iconst F dX1_hasEnded_20 hc_0 ?_
    exact (q_reti F hr rfl dX1_hasEnded_21 (Nat.le_of_ble_eq_true rfl) (Nat.le_of_ble_eq_true rfl) ⟨by simp_all [en, b2, Int32.not_lt, Int32.not_le], rfl⟩)
  refine q_iload_n F 1 dX1_hasEnded_8 rfl rfl ?_
  refine q_aload_n F 0 dX1_hasEnded_9 rfl rfl ?_
  refine qg_X1_27 F hO1 dX1_hasEnded_10 ?_
  refine q_icmp_lt F 20 dX1_hasEnded_13 rfl (fun c13 => ?_) (fun c13 => ?_)
  · refine q_iconst F dX1_hasEnded_20 hc_0 ?_
    exact (q_reti F hr rfl dX1_hasEnded_21 (Nat.le_of_ble_eq_true rfl) (Nat.le_of_ble_eq_true rfl) ⟨by simp_all [en, b2, Int32.not_lt, Int32.not_le], rfl⟩)
  refine q_iconst F dX1_hasEnded_16 hc_1 ?_
  refine q_goto F 21 dX1_hasEnded_17 rfl ?_
  exact (q_reti F hr rfl dX1_hasEnded_21 (Nat.le_of_ble_eq_true rfl) (Nat.le_of_ble_eq_true rfl) ⟨by simp_all [en, b2, Int32.not_lt, Int32.not_le], rfl⟩)

set_option maxHeartbeats 4000000 in
set_option maxRecDepth 100000 in
theorem c_X1_hasEither {l : Launch} {g : hG} {X : va_W} {S : hS} {a : Nat} {x y : Int32} (hO1 : isO S a 1) : hMet l yX1_hasEither wsX1_hasEither rm_X1_hasEither g X S [.ref a, .int x, .int y] (pI (b2 (decide (sF S 11 a = x) || decide (sF S 11 a = y))) S) := by
  refine h_start (maxL := 3) (ret := (some .boolean)) (by decide) rfl (Nat.le_of_ble_eq_true rfl) ?_
  intro p e s m args below meth c F hr hinit
  refine q_aload_n F 0 dX1_hasEither_0 rfl rfl ?_
  refine qg_X1_21 F hO1 dX1_hasEither_1 ?_
  refine q_iload_n F 1 dX1_hasEither_4 rfl rfl ?_
  refine q_icmp_eq F 16 dX1_hasEither_5 rfl (fun c5 => ?_) (fun c5 => ?_)
  · refine q_iconst F dX1_hasEither_16 hc_1 ?_
    refine q_goto F 21 dX1_hasEither_17 rfl ?_
    exact (q_reti F hr rfl dX1_hasEither_21 (Nat.le_of_ble_eq_true rfl) (Nat.le_of_ble_eq_true rfl) ⟨by simp_all [b2], rfl⟩)
  refine q_aload_n F 0 dX1_hasEither_8 rfl rfl ?_
  refine qg_X1_21 F hO1 dX1_hasEither_9 ?_
  refine q_iload_n F 2 dX1_hasEither_12 rfl rfl ?_
  refine q_icmp_ne F 20 dX1_hasEither_13 rfl (fun c13 => ?_) (fun c13 => ?_)
  · refine q_iconst F dX1_hasEither_20 hc_0 ?_
    exact (q_reti F hr rfl dX1_hasEither_21 (Nat.le_of_ble_eq_true rfl) (Nat.le_of_ble_eq_true rfl) ⟨by simp_all [b2], rfl⟩)
  refine q_iconst F dX1_hasEither_16 hc_1 ?_
  refine q_goto F 21 dX1_hasEither_17 rfl ?_
  exact (q_reti F hr rfl dX1_hasEither_21 (Nat.le_of_ble_eq_true rfl) (Nat.le_of_ble_eq_true rfl) ⟨by simp_all [b2], rfl⟩)

set_option maxHeartbeats 4000000 in
set_option maxRecDepth 100000 in
theorem c_X3_holds {l : Launch} {g : hG} {X : va_W} {S : hS} {a : Nat} {x y : Int32} (hO3 : isO S a 3) : hMet l yX3_holds wsX3_holds rm_X3_holds g X S [.ref a, .int x, .int y] (pI (b2 (decide (sF S 30 a = x) && (decide (sF S 31 a ≤ y) && decide (y ≤ sF S 32 a)))) S) := by
  refine h_start (maxL := 3) (ret := (some .boolean)) (by decide) rfl (Nat.le_of_ble_eq_true rfl) ?_
  intro p e s m args below meth c F hr hinit
  refine q_aload_n F 0 dX3_holds_0 rfl rfl ?_
  refine qg_X3_7 F hO3 dX3_holds_1 ?_
  refine q_iload_n F 1 dX3_holds_4 rfl rfl ?_
  refine q_icmp_ne F 28 dX3_holds_5 rfl (fun c5 => ?_) (fun c5 => ?_)
  · refine q_iconst F dX3_holds_28 hc_0 ?_
    exact (q_reti F hr rfl dX3_holds_29 (Nat.le_of_ble_eq_true rfl) (Nat.le_of_ble_eq_true rfl) ⟨by first | (simp_all [b2, Int32.not_lt]; done) | (simp_all [b2, Int32.not_lt]; intro h; exact absurd h (Int32.not_le.mpr (by assumption))) | (simp_all [b2, Int32.not_lt]; exact Int32.not_le.mpr (by assumption)), rfl⟩)
  refine q_iload_n F 2 dX3_holds_8 rfl rfl ?_
  refine q_aload_n F 0 dX3_holds_9 rfl rfl ?_
  refine qg_X3_13 F hO3 dX3_holds_10 ?_
  refine q_icmp_lt F 28 dX3_holds_13 rfl (fun c13 => ?_) (fun c13 => ?_)
  · refine q_iconst F dX3_holds_28 hc_0 ?_
    exact (q_reti F hr rfl dX3_holds_29 (Nat.le_of_ble_eq_true rfl) (Nat.le_of_ble_eq_true rfl) ⟨by first | (simp_all [b2, Int32.not_lt]; done) | (simp_all [b2, Int32.not_lt]; intro h; exact absurd h (Int32.not_le.mpr (by assumption))) | (simp_all [b2, Int32.not_lt]; exact Int32.not_le.mpr (by assumption)), rfl⟩)
  refine q_iload_n F 2 dX3_holds_16 rfl rfl ?_
  refine q_aload_n F 0 dX3_holds_17 rfl rfl ?_
  refine qg_X3_16 F hO3 dX3_holds_18 ?_
  refine q_icmp_gt F 28 dX3_holds_21 rfl (fun c21 => ?_) (fun c21 => ?_)
  · refine q_iconst F dX3_holds_28 hc_0 ?_
    exact (q_reti F hr rfl dX3_holds_29 (Nat.le_of_ble_eq_true rfl) (Nat.le_of_ble_eq_true rfl) ⟨by first | (simp_all [b2, Int32.not_lt]; done) | (simp_all [b2, Int32.not_lt]; intro h; exact absurd h (Int32.not_le.mpr (by assumption))) | (simp_all [b2, Int32.not_lt]; exact Int32.not_le.mpr (by assumption)), rfl⟩)
  refine q_iconst F dX3_holds_24 hc_1 ?_
  refine q_goto F 29 dX3_holds_25 rfl ?_
  exact (q_reti F hr rfl dX3_holds_29 (Nat.le_of_ble_eq_true rfl) (Nat.le_of_ble_eq_true rfl) ⟨by first | (simp_all [b2, Int32.not_lt]; done) | (simp_all [b2, Int32.not_lt]; intro h; exact absurd h (Int32.not_le.mpr (by assumption))) | (simp_all [b2, Int32.not_lt]; exact Int32.not_le.mpr (by assumption)), rfl⟩)

set_option maxHeartbeats 4000000 in
set_option maxRecDepth 100000 in
theorem c_X4_kindOf {l : Launch} {g : hG} {X : va_W} {S : hS} {key : Int32} : hMet l yX4_kindOf wsX4_kindOf rm_X4_kindOf g X S [.int key] (pI (key % 3) S) := by
  refine h_start (maxL := 1) (ret := (some .int)) (by decide) rfl (Nat.le_of_ble_eq_true rfl) ?_
  intro p e s m args below meth c F hr hinit
  refine q_iload_n F 0 dX4_kindOf_0 rfl rfl ?_
  refine q_iconst F dX4_kindOf_1 hc_3 ?_
  refine q_irem F dX4_kindOf_2 (by decide) ?_
  exact (q_reti F hr rfl dX4_kindOf_3 (Nat.le_of_ble_eq_true rfl) (Nat.le_of_ble_eq_true rfl) ⟨rfl, rfl⟩)

set_option maxHeartbeats 4000000 in
set_option maxRecDepth 100000 in
theorem c_X1_covers {l : Launch} {g : hG} {X : va_W} {S : hS} {a pa : Nat} {pt : Nat → Nat} {M : Nat → Nat → Int32} {i n : Nat} {name port : Int32} (hG : lnG S a pa) (hL : lnR S a pa pt M i n) : hMet l yX1_covers wsX1_covers rm_X1_covers g X S [.ref a, .int name, .int port] (pI (b2 (mt M i name port)) S) := by
  refine h_start (maxL := 6) (ret := (some .boolean)) (by decide) rfl (Nat.le_of_ble_eq_true rfl) ?_
  intro p e s m args below meth c F hr hinit
  refine q_aload_n F 0 dX1_covers_0 rfl rfl ?_
  refine qg_X1_33 F hG.1 dX1_covers_1 ?_
  refine q_if_eq F 36 dX1_covers_4 rfl (fun c4 => ?_) (fun c4 => ?_)
  · refine q_iconst F dX1_covers_36 hc_0 ?_
    refine q_istore_n F 3 dX1_covers_37 rfl (by decide) rfl ?_
    refine q_iconst F dX1_covers_38 hc_0 ?_
    refine q_istore F dX1_covers_39 (by decide) rfl ?_
    have h9 : M 9 i = -1 := by
      rcases hL.2.2.1 with h | h
      · exact absurd (show sF S 16 a = 0 from c4) (by rw [h.1]; decide)
      · exact h.2
    have L : ∀ (r j : Nat), j + r = n → anyN (fun k => ft M i name port k && dn M i k) j = false → V p l e rm_X1_covers s m args below meth c 6 g X (MQ below (hQ g X (pI (b2 (mt M i name port)) S)) args s rm_X1_covers.cells rm_X1_covers.slots (hA g)) S 0 0 [(0, .ref a), (1, .int name), (2, .int port), (3, .int (b2 (anyN (fun k => ft M i name port k && !dn M i k) j))), (4, .int (nI j))] 41 [] := by
      intro r
      induction r with
      | zero =>
        intro j hjr hD
        refine q_iload F dX1_covers_41 rfl ?_
        refine q_aload_n F 0 dX1_covers_43 rfl rfl ?_
        refine qg_X1_30 F hG.1 dX1_covers_44 ?_
        refine q_icmp_ge F 87 dX1_covers_47 rfl (fun c47 => ?_) (fun c47 => ?_)
        · refine q_iload_n F 3 dX1_covers_87 rfl rfl ?_
          exact (q_reti F hr (b2_nar _) dX1_covers_88 (Nat.le_of_ble_eq_true rfl) (Nat.le_of_ble_eq_true rfl) ⟨by have hjn : j = n := (by omega); subst hjn; rw [mt, if_pos h9, sz_of hL, mt_end hD], rfl⟩)
        exact absurd c47 (gT hL.2.1.1 rfl (by omega) (by have := hL.2.1.2.2; omega))
      | succ r ih =>
        intro j hjr hD
        have hj : j < n := by omega
        have hf : pfit S (pt j) name port = ft M i name port j := pfit_ft hL hj
        have hd := den_dn hL hj
        refine q_iload F dX1_covers_41 rfl ?_
        refine q_aload_n F 0 dX1_covers_43 rfl rfl ?_
        refine qg_X1_30 F hG.1 dX1_covers_44 ?_
        refine q_icmp_ge F 87 dX1_covers_47 rfl (fun c47 => ?_) (fun c47 => ?_)
        · exact absurd c47 (gF hL.2.1.1 rfl (by omega) (by have := hL.2.1.2.2; omega))
        refine q_aload_n F 0 dX1_covers_50 rfl rfl ?_
        refine qg_X1_11 F hG.2.1 hG.1 dX1_covers_51 ?_
        refine q_iload F dX1_covers_54 rfl ?_
        refine q_aald_p F hG.2.2.1 hG.2.2.2 rfl (Nat.lt_of_lt_of_le hj hL.2.1.2.2) (by decide) (hL.2.2.2 j hj).1 dX1_covers_56 ?_
        refine q_astore F dX1_covers_57 (by decide) rfl ?_
        refine q_aload F dX1_covers_59 rfl ?_
        refine q_iload_n F 1 dX1_covers_61 rfl rfl ?_
        refine q_iload_n F 2 dX1_covers_62 rfl rfl ?_
        refine q_callV_i F (c_X2_fits (hL.2.2.2 j hj).2.1) gX1_covers_X2_fits rfl hd_X2_fits ⟨Nat.le_of_ble_eq_true rfl, Nat.le_of_ble_eq_true rfl⟩ (hL.2.2.2 j hj).2.1 rfl rfl rfl (Nat.le_of_ble_eq_true rfl) dX1_covers_63 ⟨Nat.le_of_ble_eq_true rfl, Nat.le_of_ble_eq_true rfl⟩ ?_
        refine q_if_eq F 81 dX1_covers_66 rfl (fun c66 => ?_) (fun c66 => ?_)
        · refine q_iinc F (nI (j + 1)) dX1_covers_81 rfl (nI_inc j) (by decide) rfl ?_
          refine q_goto F 41 dX1_covers_84 rfl ?_
          exact q_to (ih (j + 1) (by omega) (by rw [hf] at c66; rw [anyN, hD]; simp_all [b2_0])) ⟨rfl, rfl, rfl, congrArg (fun z => some (Value.int z)) (by rw [hf] at c66; rw [anyN]; simp_all [b2_0, b2]), rfl, trivial⟩
        refine q_aload F dX1_covers_69 rfl ?_
        refine qg_X1_64 F (hL.2.2.2 j hj).2.1 dX1_covers_71 ?_
        refine q_if_eq F 79 dX1_covers_74 rfl (fun c74 => ?_) (fun c74 => ?_)
        · refine q_iconst F dX1_covers_79 hc_1 ?_
          refine q_istore_n F 3 dX1_covers_80 rfl (by decide) rfl ?_
          refine q_iinc F (nI (j + 1)) dX1_covers_81 rfl (nI_inc j) (by decide) rfl ?_
          refine q_goto F 41 dX1_covers_84 rfl ?_
          exact q_to (ih (j + 1) (by omega) (by rw [hf] at c66; rw [anyN, hD]; simp_all [b2_0])) ⟨rfl, rfl, rfl, congrArg (fun z => some (Value.int z)) (by rw [hf] at c66; rw [anyN]; simp_all [b2_0, b2]), rfl, trivial⟩
        refine q_iconst F dX1_covers_77 hc_0 ?_
        exact (q_reti F hr rfl dX1_covers_78 (Nat.le_of_ble_eq_true rfl) (Nat.le_of_ble_eq_true rfl) ⟨by rw [hf] at c66; rw [mt, if_pos h9, sz_of hL, mt_den hj (by simpa [b2_0] using c66) (by simp [hd, c74])]; rfl, rfl⟩)
    exact q_to (L n 0 (by omega) rfl) ⟨rfl, rfl, rfl, rfl, rfl, trivial⟩
  refine q_iload_n F 2 dX1_covers_7 rfl rfl ?_
  refine q_aload_n F 0 dX1_covers_8 rfl rfl ?_
  refine qg_X1_57 F hG.1 dX1_covers_9 ?_
  refine q_icmp_ne F 34 dX1_covers_12 rfl (fun c12 => ?_) (fun c12 => ?_)
  · refine q_iconst F dX1_covers_34 hc_0 ?_
    exact (q_reti F hr rfl dX1_covers_35 (Nat.le_of_ble_eq_true rfl) (Nat.le_of_ble_eq_true rfl) ⟨by rw [mt_hash hL c4]; first | simp [b2, c12, c27] | simp [b2, c12], rfl⟩)
  refine q_iload_n F 1 dX1_covers_15 rfl rfl ?_
  refine q_aload_n F 0 dX1_covers_16 rfl rfl ?_
  refine qg_X1_54 F hG.1 dX1_covers_17 ?_
  refine q_callS_i F (c_X1_hashOf) gX1_covers_X1_hashOf rfl hd_X1_hashOf ⟨Nat.le_of_ble_eq_true rfl, Nat.le_of_ble_eq_true rfl⟩ rfl rfl (Nat.le_of_ble_eq_true rfl) dX1_covers_20 ⟨Nat.le_of_ble_eq_true rfl, Nat.le_of_ble_eq_true rfl⟩ ?_
  refine q_aload_n F 0 dX1_covers_23 rfl rfl ?_
  refine qg_X1_51 F hG.1 dX1_covers_24 ?_
  refine q_icmp_ne F 34 dX1_covers_27 rfl (fun c27 => ?_) (fun c27 => ?_)
  · refine q_iconst F dX1_covers_34 hc_0 ?_
    exact (q_reti F hr rfl dX1_covers_35 (Nat.le_of_ble_eq_true rfl) (Nat.le_of_ble_eq_true rfl) ⟨by rw [mt_hash hL c4]; first | simp [b2, c12, c27] | simp [b2, c12], rfl⟩)
  refine q_iconst F dX1_covers_30 hc_1 ?_
  refine q_goto F 35 dX1_covers_31 rfl ?_
  exact (q_reti F hr rfl dX1_covers_35 (Nat.le_of_ble_eq_true rfl) (Nat.le_of_ble_eq_true rfl) ⟨by rw [mt_hash hL c4]; first | simp [b2, c12, c27] | simp [b2, c12], rfl⟩)
end
section
set_option maxHeartbeats 4000000 in
set_option maxRecDepth 100000 in
theorem c_X4_isLivePlain {l : Launch} {g : hG} {X : va_W} {S : hS} {h a : Nat} (hO4 : isO S h 4) (hO1 : isO S a 1) : hMet l yX4_isLivePlain wsX4_isLivePlain rm_X4_isLivePlain g X S [.ref h, .ref a] (pI (b2 (decide (sF S 10 a = 0) && !en (sF S 46 h) (sF S 13 a))) S) := by
  refine h_start (maxL := 2) (ret := (some .boolean)) (by decide) rfl (Nat.le_of_ble_eq_true rfl) ?_
  intro p e s m args below meth c F hr hinit
  refine q_aload_n F 1 dX4_isLivePlain_0 rfl rfl ?_
  refine qg_X4_155 F hO1 dX4_isLivePlain_1 ?_
  refine q_if_ne F 22 dX4_isLivePlain_4 rfl (fun c4 => ?_) (fun c4 => ?_)
  · refine q_iconst F dX4_isLivePlain_22 hc_0 ?_
    exact (q_reti F hr rfl dX4_isLivePlain_23 (Nat.le_of_ble_eq_true rfl) (Nat.le_of_ble_eq_true rfl) ⟨by simp_all [b2_0, b2], rfl⟩)
  refine q_aload_n F 1 dX4_isLivePlain_7 rfl rfl ?_
  refine q_aload_n F 0 dX4_isLivePlain_8 rfl rfl ?_
  refine qg_X4_146 F hO4 dX4_isLivePlain_9 ?_
  refine q_callV_i F (c_X1_hasEnded hO1) gX4_isLivePlain_X1_hasEnded rfl hd_X1_hasEnded ⟨Nat.le_of_ble_eq_true rfl, Nat.le_of_ble_eq_true rfl⟩ hO1 rfl rfl rfl (Nat.le_of_ble_eq_true rfl) dX4_isLivePlain_12 ⟨Nat.le_of_ble_eq_true rfl, Nat.le_of_ble_eq_true rfl⟩ ?_
  refine q_if_ne F 22 dX4_isLivePlain_15 rfl (fun c15 => ?_) (fun c15 => ?_)
  · refine q_iconst F dX4_isLivePlain_22 hc_0 ?_
    exact (q_reti F hr rfl dX4_isLivePlain_23 (Nat.le_of_ble_eq_true rfl) (Nat.le_of_ble_eq_true rfl) ⟨by simp_all [b2_0, b2], rfl⟩)
  refine q_iconst F dX4_isLivePlain_18 hc_1 ?_
  refine q_goto F 23 dX4_isLivePlain_19 rfl ?_
  exact (q_reti F hr rfl dX4_isLivePlain_23 (Nat.le_of_ble_eq_true rfl) (Nat.le_of_ble_eq_true rfl) ⟨by simp_all [b2_0, b2], rfl⟩)

set_option maxHeartbeats 4000000 in
set_option maxRecDepth 100000 in
theorem c_X4_authorityOf {l : Launch} {g : hG} {X : va_W} {S : hS} {a : Nat} (hO0 : isO S a 0) : hMet l yX4_authorityOf wsX4_authorityOf rm_X4_authorityOf g X S [.ref a] (pI (sF S 0 a) S) := by
  refine h_start (maxL := 1) (ret := (some .int)) (by decide) rfl (Nat.le_of_ble_eq_true rfl) ?_
  intro p e s m args below meth c F hr hinit
  refine q_aload_n F 0 dX4_authorityOf_0 rfl rfl ?_
  refine q_ifnonnull F 8 dX4_authorityOf_1 rfl ?_
  refine q_aload_n F 0 dX4_authorityOf_8 rfl rfl ?_
  refine qg_X4_219 F hO0 dX4_authorityOf_9 ?_
  exact (q_reti F hr rfl dX4_authorityOf_12 (Nat.le_of_ble_eq_true rfl) (Nat.le_of_ble_eq_true rfl) ⟨rfl, rfl⟩)

set_option maxHeartbeats 4000000 in
set_option maxRecDepth 100000 in
theorem c_X4_authorityOf_n {l : Launch} {g : hG} {X : va_W} {S : hS}  : hMet l yX4_authorityOf wsX4_authorityOf rm_X4_authorityOf g X S [.null] (pI (-1) S) := by
  refine h_start (maxL := 1) (ret := (some .int)) (by decide) rfl (Nat.le_of_ble_eq_true rfl) ?_
  intro p e s m args below meth c F hr hinit
  refine q_aload_nN F 0 dX4_authorityOf_0 rfl rfl ?_
  refine q_ifnonnullN F dX4_authorityOf_1 ?_
  refine q_iconst F dX4_authorityOf_4 hc_m1 ?_
  refine q_goto F 12 dX4_authorityOf_5 rfl ?_
  exact (q_reti F hr rfl dX4_authorityOf_12 (Nat.le_of_ble_eq_true rfl) (Nat.le_of_ble_eq_true rfl) ⟨rfl, rfl⟩)

set_option maxHeartbeats 4000000 in
set_option maxRecDepth 100000 in
theorem c_X4_judgementByMatch {l : Launch} {g : hG} {X : va_W} {S : hS} {h a : Nat} {key au : Int32} (hO4 : isO S h 4) (hO1 : isO S a 1) : hMet l yX4_judgementByMatch wsX4_judgementByMatch rm_X4_judgementByMatch g X S [.ref h, .ref a, .int key, .int au] (pI (jmF (sF S 10 a) (sF S 11 a) (sF S 13 a) (sF S 46 h) key au) S) := by
  refine h_start (maxL := 4) (ret := (some .int)) (by decide) rfl (Nat.le_of_ble_eq_true rfl) ?_
  intro p e s m args below meth c F hr hinit
  refine q_aload_n F 1 dX4_judgementByMatch_0 rfl rfl ?_
  refine qg_X4_155 F hO1 dX4_judgementByMatch_1 ?_
  refine q_iconst F dX4_judgementByMatch_4 hc_1 ?_
  refine q_icmp_ne F 19 dX4_judgementByMatch_5 rfl (fun c5 => ?_) (fun c5 => ?_)
  · refine q_aload_n F 0 dX4_judgementByMatch_19 rfl rfl ?_
    refine q_aload_n F 1 dX4_judgementByMatch_20 rfl rfl ?_
    refine q_callV_i F (c_X4_isLivePlain hO4 hO1) gX4_judgementByMatch_X4_isLivePlain rfl hd_X4_isLivePlain ⟨Nat.le_of_ble_eq_true rfl, Nat.le_of_ble_eq_true rfl⟩ hO4 rfl rfl rfl (Nat.le_of_ble_eq_true rfl) dX4_judgementByMatch_21 ⟨Nat.le_of_ble_eq_true rfl, Nat.le_of_ble_eq_true rfl⟩ ?_
    refine q_if_ne F 29 dX4_judgementByMatch_24 rfl (fun c24 => ?_) (fun c24 => ?_)
    · refine q_aload_n F 1 dX4_judgementByMatch_29 rfl rfl ?_
      refine qg_X4_65 F hO1 dX4_judgementByMatch_30 ?_
      refine q_iload_n F 2 dX4_judgementByMatch_33 rfl rfl ?_
      refine q_icmp_ne F 39 dX4_judgementByMatch_34 rfl (fun c34 => ?_) (fun c34 => ?_)
      · refine q_aload_n F 1 dX4_judgementByMatch_39 rfl rfl ?_
        refine qg_X4_65 F hO1 dX4_judgementByMatch_40 ?_
        refine q_callS_i F (c_X4_kindOf) gX4_judgementByMatch_X4_kindOf rfl hd_X4_kindOf ⟨Nat.le_of_ble_eq_true rfl, Nat.le_of_ble_eq_true rfl⟩ rfl rfl (Nat.le_of_ble_eq_true rfl) dX4_judgementByMatch_43 ⟨Nat.le_of_ble_eq_true rfl, Nat.le_of_ble_eq_true rfl⟩ ?_
        refine q_iload_n F 2 dX4_judgementByMatch_46 rfl rfl ?_
        refine q_callS_i F (c_X4_kindOf) gX4_judgementByMatch_X4_kindOf rfl hd_X4_kindOf ⟨Nat.le_of_ble_eq_true rfl, Nat.le_of_ble_eq_true rfl⟩ rfl rfl (Nat.le_of_ble_eq_true rfl) dX4_judgementByMatch_47 ⟨Nat.le_of_ble_eq_true rfl, Nat.le_of_ble_eq_true rfl⟩ ?_
        refine q_icmp_ne F 57 dX4_judgementByMatch_50 rfl (fun c50 => ?_) (fun c50 => ?_)
        · refine q_iconst F dX4_judgementByMatch_57 hc_4 ?_
          exact (q_reti F hr rfl dX4_judgementByMatch_58 (Nat.le_of_ble_eq_true rfl) (Nat.le_of_ble_eq_true rfl) ⟨by unfold jmF; first | (simp_all [b2_0, b2]; done) | (simp_all [b2_0, b2]; assumption), rfl⟩)
        refine q_iconst F dX4_judgementByMatch_53 hc_3 ?_
        refine q_goto F 58 dX4_judgementByMatch_54 rfl ?_
        exact (q_reti F hr rfl dX4_judgementByMatch_58 (Nat.le_of_ble_eq_true rfl) (Nat.le_of_ble_eq_true rfl) ⟨by unfold jmF; first | (simp_all [b2_0, b2]; done) | (simp_all [b2_0, b2]; assumption), rfl⟩)
      refine q_iconst F dX4_judgementByMatch_37 hc_2 ?_
      exact (q_reti F hr rfl dX4_judgementByMatch_38 (Nat.le_of_ble_eq_true rfl) (Nat.le_of_ble_eq_true rfl) ⟨by unfold jmF; first | (simp_all [b2_0, b2]; done) | (simp_all [b2_0, b2]; assumption), rfl⟩)
    refine q_iconst F dX4_judgementByMatch_27 hc_5 ?_
    exact (q_reti F hr rfl dX4_judgementByMatch_28 (Nat.le_of_ble_eq_true rfl) (Nat.le_of_ble_eq_true rfl) ⟨by unfold jmF; first | (simp_all [b2_0, b2]; done) | (simp_all [b2_0, b2]; assumption), rfl⟩)
  refine q_aload_n F 1 dX4_judgementByMatch_8 rfl rfl ?_
  refine q_iload_n F 2 dX4_judgementByMatch_9 rfl rfl ?_
  refine q_iload_n F 3 dX4_judgementByMatch_10 rfl rfl ?_
  refine q_callV_i F (c_X1_hasEither hO1) gX4_judgementByMatch_X1_hasEither rfl hd_X1_hasEither ⟨Nat.le_of_ble_eq_true rfl, Nat.le_of_ble_eq_true rfl⟩ hO1 rfl rfl rfl (Nat.le_of_ble_eq_true rfl) dX4_judgementByMatch_11 ⟨Nat.le_of_ble_eq_true rfl, Nat.le_of_ble_eq_true rfl⟩ ?_
  refine q_if_eq F 19 dX4_judgementByMatch_14 rfl (fun c14 => ?_) (fun c14 => ?_)
  · refine q_aload_n F 0 dX4_judgementByMatch_19 rfl rfl ?_
    refine q_aload_n F 1 dX4_judgementByMatch_20 rfl rfl ?_
    refine q_callV_i F (c_X4_isLivePlain hO4 hO1) gX4_judgementByMatch_X4_isLivePlain rfl hd_X4_isLivePlain ⟨Nat.le_of_ble_eq_true rfl, Nat.le_of_ble_eq_true rfl⟩ hO4 rfl rfl rfl (Nat.le_of_ble_eq_true rfl) dX4_judgementByMatch_21 ⟨Nat.le_of_ble_eq_true rfl, Nat.le_of_ble_eq_true rfl⟩ ?_
    refine q_if_ne F 29 dX4_judgementByMatch_24 rfl (fun c24 => ?_) (fun c24 => ?_)
    · refine q_aload_n F 1 dX4_judgementByMatch_29 rfl rfl ?_
      refine qg_X4_65 F hO1 dX4_judgementByMatch_30 ?_
      refine q_iload_n F 2 dX4_judgementByMatch_33 rfl rfl ?_
      refine q_icmp_ne F 39 dX4_judgementByMatch_34 rfl (fun c34 => ?_) (fun c34 => ?_)
      · refine q_aload_n F 1 dX4_judgementByMatch_39 rfl rfl ?_
        refine qg_X4_65 F hO1 dX4_judgementByMatch_40 ?_
        refine q_callS_i F (c_X4_kindOf) gX4_judgementByMatch_X4_kindOf rfl hd_X4_kindOf ⟨Nat.le_of_ble_eq_true rfl, Nat.le_of_ble_eq_true rfl⟩ rfl rfl (Nat.le_of_ble_eq_true rfl) dX4_judgementByMatch_43 ⟨Nat.le_of_ble_eq_true rfl, Nat.le_of_ble_eq_true rfl⟩ ?_
        refine q_iload_n F 2 dX4_judgementByMatch_46 rfl rfl ?_
        refine q_callS_i F (c_X4_kindOf) gX4_judgementByMatch_X4_kindOf rfl hd_X4_kindOf ⟨Nat.le_of_ble_eq_true rfl, Nat.le_of_ble_eq_true rfl⟩ rfl rfl (Nat.le_of_ble_eq_true rfl) dX4_judgementByMatch_47 ⟨Nat.le_of_ble_eq_true rfl, Nat.le_of_ble_eq_true rfl⟩ ?_
        refine q_icmp_ne F 57 dX4_judgementByMatch_50 rfl (fun c50 => ?_) (fun c50 => ?_)
        · refine q_iconst F dX4_judgementByMatch_57 hc_4 ?_
          exact (q_reti F hr rfl dX4_judgementByMatch_58 (Nat.le_of_ble_eq_true rfl) (Nat.le_of_ble_eq_true rfl) ⟨by unfold jmF; first | (simp_all [b2_0, b2]; done) | (simp_all [b2_0, b2]; assumption), rfl⟩)
        refine q_iconst F dX4_judgementByMatch_53 hc_3 ?_
        refine q_goto F 58 dX4_judgementByMatch_54 rfl ?_
        exact (q_reti F hr rfl dX4_judgementByMatch_58 (Nat.le_of_ble_eq_true rfl) (Nat.le_of_ble_eq_true rfl) ⟨by unfold jmF; first | (simp_all [b2_0, b2]; done) | (simp_all [b2_0, b2]; assumption), rfl⟩)
      refine q_iconst F dX4_judgementByMatch_37 hc_2 ?_
      exact (q_reti F hr rfl dX4_judgementByMatch_38 (Nat.le_of_ble_eq_true rfl) (Nat.le_of_ble_eq_true rfl) ⟨by unfold jmF; first | (simp_all [b2_0, b2]; done) | (simp_all [b2_0, b2]; assumption), rfl⟩)
    refine q_iconst F dX4_judgementByMatch_27 hc_5 ?_
    exact (q_reti F hr rfl dX4_judgementByMatch_28 (Nat.le_of_ble_eq_true rfl) (Nat.le_of_ble_eq_true rfl) ⟨by unfold jmF; first | (simp_all [b2_0, b2]; done) | (simp_all [b2_0, b2]; assumption), rfl⟩)
  refine q_iconst F dX4_judgementByMatch_17 hc_0 ?_
  exact (q_reti F hr rfl dX4_judgementByMatch_18 (Nat.le_of_ble_eq_true rfl) (Nat.le_of_ble_eq_true rfl) ⟨by unfold jmF; first | (simp_all [b2_0, b2]; done) | (simp_all [b2_0, b2]; assumption), rfl⟩)

set_option maxHeartbeats 4000000 in
set_option maxRecDepth 100000 in
theorem c_X4_judgementByLines {l : Launch} {g : hG} {X : va_W} {S : hS} {h bk ca sa : Nat} {ad pa : Nat → Nat} {sc : Nat → Int32} {M : Nat → Nat → Int32} {n nc ns : Nat} (hG : cG S h bk ca sa ad pa) (hC : cC S h ca sa ad pa sc M n nc ns) {name port key au : Int32} : hMet l yX4_judgementByLines wsX4_judgementByLines rm_X4_judgementByLines g X S [.ref h, .int name, .int port, .int key, .int au] (pI (jb (sc 1) M name port key au n) S) := by
  refine h_start (maxL := 7) (ret := (some .int)) (by decide) rfl (Nat.le_of_ble_eq_true rfl) ?_
  intro p e s m args below meth c F hr hinit
  have hn40 := hC.1.2.2
  refine q_iconst F dX4_judgementByLines_0 hc_5 ?_
  refine q_istore F dX4_judgementByLines_1 (by decide) rfl ?_
  refine q_iconst F dX4_judgementByLines_3 hc_0 ?_
  refine q_istore F dX4_judgementByLines_4 (by decide) rfl ?_
  have L : ∀ (r j : Nat), j + r = n → V p l e rm_X4_judgementByLines s m args below meth c 7 g X (MQ below (hQ g X (pI (jb (sc 1) M name port key au n) S)) args s rm_X4_judgementByLines.cells rm_X4_judgementByLines.slots (hA g)) S 0 0 [(0, .ref h), (1, .int name), (2, .int port), (3, .int key), (4, .int au), (5, .int (jb (sc 1) M name port key au j)), (6, .int (nI j))] 6 [] := by
    intro r
    induction r with
    | zero =>
      intro j hjr
      have hjn : j = n := by omega
      subst hjn
      refine q_iload F dX4_judgementByLines_6 rfl ?_
      refine q_aload_n F 0 dX4_judgementByLines_8 rfl rfl ?_
      refine qg_X4_47 F hG.1 dX4_judgementByLines_9 ?_
      refine q_icmp_ge F 57 dX4_judgementByLines_12 rfl (fun c12 => ?_) (fun c12 => ?_)
      · refine q_iload F dX4_judgementByLines_57 rfl ?_
        exact (q_reti F hr rfl dX4_judgementByLines_59 (Nat.le_of_ble_eq_true rfl) (Nat.le_of_ble_eq_true rfl) ⟨rfl, rfl⟩)
      exact absurd c12 (gT hC.1.1 rfl (Nat.le_refl _) (by omega))
    | succ r ih =>
      intro j hjr
      have hj : j < n := by omega
      have hi40 : j < 40 := Nat.lt_of_lt_of_le hj hC.1.2.2
      obtain ⟨pt, k, hL⟩ := hC.2.1 j hj
      refine q_iload F dX4_judgementByLines_6 rfl ?_
      refine q_aload_n F 0 dX4_judgementByLines_8 rfl rfl ?_
      refine qg_X4_47 F hG.1 dX4_judgementByLines_9 ?_
      refine q_icmp_ge F 57 dX4_judgementByLines_12 rfl (fun c12 => ?_) (fun c12 => ?_)
      · exact absurd c12 (gF hC.1.1 rfl hj (by omega))
      refine q_aload_n F 0 dX4_judgementByLines_15 rfl rfl ?_
      refine qg_X4_11 F hG.2.1.1 hG.1 dX4_judgementByLines_16 ?_
      refine q_iload F dX4_judgementByLines_19 rfl ?_
      refine q_aald_l F hG.2.1.2.1 hG.2.1.2.2 rfl hi40 (by decide) (hG.2.2.2.2.1 _ hi40).1 dX4_judgementByLines_21 ?_
      refine q_iload_n F 1 dX4_judgementByLines_22 rfl rfl ?_
      refine q_iload_n F 2 dX4_judgementByLines_23 rfl rfl ?_
      refine q_callV_i F (c_X1_covers (hG.2.2.2.2.1 _ hi40).2 hL) gX4_judgementByLines_X1_covers rfl hd_X1_covers ⟨Nat.le_of_ble_eq_true rfl, Nat.le_of_ble_eq_true rfl⟩ (hG.2.2.2.2.1 _ hi40).2.1 rfl rfl rfl (Nat.le_of_ble_eq_true rfl) dX4_judgementByLines_24 ⟨Nat.le_of_ble_eq_true rfl, Nat.le_of_ble_eq_true rfl⟩ ?_
      refine q_if_eq F 51 dX4_judgementByLines_27 rfl (fun c27 => ?_) (fun c27 => ?_)
      · refine q_iinc F (nI (j + 1)) dX4_judgementByLines_51 rfl (nI_inc j) (by decide) rfl ?_
        refine q_goto F 6 dX4_judgementByLines_54 rfl ?_
        exact q_to (ih (j + 1) (by omega)) ⟨rfl, rfl, rfl, rfl, rfl, congrArg (fun z => some (Value.int z)) (by first | exact (jb_s0 (b2_0.mp c27)).symm | (rw [jb_s1 (b2_n0 c27)]; unfold imin jm; rw [hL.1.1, hL.1.2.1, hL.1.2.2.2, hC.2.2.2.2.1.1])), rfl, trivial⟩
      refine q_iload F dX4_judgementByLines_30 rfl ?_
      refine q_aload_n F 0 dX4_judgementByLines_32 rfl rfl ?_
      refine q_aload_n F 0 dX4_judgementByLines_33 rfl rfl ?_
      refine qg_X4_11 F hG.2.1.1 hG.1 dX4_judgementByLines_34 ?_
      refine q_iload F dX4_judgementByLines_37 rfl ?_
      refine q_aald_l F hG.2.1.2.1 hG.2.1.2.2 rfl hi40 (by decide) (hG.2.2.2.2.1 _ hi40).1 dX4_judgementByLines_39 ?_
      refine q_iload_n F 3 dX4_judgementByLines_40 rfl rfl ?_
      refine q_iload F dX4_judgementByLines_41 rfl ?_
      refine q_callV_i F (c_X4_judgementByMatch hG.1 (hG.2.2.2.2.1 _ hi40).2.1) gX4_judgementByLines_X4_judgementByMatch rfl hd_X4_judgementByMatch ⟨Nat.le_of_ble_eq_true rfl, Nat.le_of_ble_eq_true rfl⟩ hG.1 rfl rfl rfl (Nat.le_of_ble_eq_true rfl) dX4_judgementByLines_43 ⟨Nat.le_of_ble_eq_true rfl, Nat.le_of_ble_eq_true rfl⟩ ?_
      refine q_min F (List.mem_of_getElem? (i := 322) (by decide +kernel)) dX4_judgementByLines_46 ⟨Nat.le_of_ble_eq_true rfl, Nat.le_of_ble_eq_true rfl⟩ ⟨Nat.le_of_ble_eq_true rfl, Nat.le_of_ble_eq_true rfl⟩ ?_
      refine q_istore F dX4_judgementByLines_49 (by decide) rfl ?_
      refine q_iinc F (nI (j + 1)) dX4_judgementByLines_51 rfl (nI_inc j) (by decide) rfl ?_
      refine q_goto F 6 dX4_judgementByLines_54 rfl ?_
      exact q_to (ih (j + 1) (by omega)) ⟨rfl, rfl, rfl, rfl, rfl, congrArg (fun z => some (Value.int z)) (by first | exact (jb_s0 (b2_0.mp c27)).symm | (rw [jb_s1 (b2_n0 c27)]; unfold imin jm; rw [hL.1.1, hL.1.2.1, hL.1.2.2.2, hC.2.2.2.2.1.1])), rfl, trivial⟩
  exact q_to (L n 0 (by omega)) ⟨rfl, rfl, rfl, rfl, rfl, rfl, rfl, trivial⟩

set_option maxHeartbeats 4000000 in
set_option maxRecDepth 100000 in
theorem c_X4_hasAuthority {l : Launch} {g : hG} {X : va_W} {S : hS} {h bk ca sa : Nat} {ad pa : Nat → Nat} {sc : Nat → Int32} {M : Nat → Nat → Int32} {n nc ns : Nat} (hG : cG S h bk ca sa ad pa) (hC : cC S h ca sa ad pa sc M n nc ns) {name port au : Int32} : hMet l yX4_hasAuthority wsX4_hasAuthority rm_X4_hasAuthority g X S [.ref h, .int au, .int name, .int port] (pI (b2 (anyN (ln (sc 1) M 2 au false name port) n)) S) := by
  refine h_start (maxL := 6) (ret := (some .boolean)) (by decide) rfl (Nat.le_of_ble_eq_true rfl) ?_
  intro p e s m args below meth c F hr hinit
  have hn40 := hC.1.2.2
  have hday := hC.2.2.2.2.1.1
  refine q_iconst F dX4_hasAuthority_0 hc_0 ?_
  refine q_istore F dX4_hasAuthority_1 (by decide) rfl ?_
  have L : ∀ (r j : Nat), j + r = n → anyN (ln (sc 1) M 2 au false name port) j = false → V p l e rm_X4_hasAuthority s m args below meth c 6 g X (MQ below (hQ g X (pI (b2 (anyN (ln (sc 1) M 2 au false name port) n)) S)) args s rm_X4_hasAuthority.cells rm_X4_hasAuthority.slots (hA g)) S 0 0 [(0, .ref h), (1, .int au), (2, .int name), (3, .int port), (4, .int (nI j))] 3 [] := by
    intro r
    induction r with
    | zero =>
      intro j hjr hD
      have hjn : j = n := by omega
      subst hjn
      refine q_iload F dX4_hasAuthority_3 rfl ?_
      refine q_aload_n F 0 dX4_hasAuthority_5 rfl rfl ?_
      refine qg_X4_47 F hG.1 dX4_hasAuthority_6 ?_
      refine q_icmp_ge F 69 dX4_hasAuthority_9 rfl (fun c9 => ?_) (fun c9 => ?_)
      · refine q_iconst F dX4_hasAuthority_69 hc_0 ?_
        exact (q_reti F hr rfl dX4_hasAuthority_70 (Nat.le_of_ble_eq_true rfl) (Nat.le_of_ble_eq_true rfl) ⟨by rw [hD]; rfl, rfl⟩)
      exact absurd c9 (gT hC.1.1 rfl (Nat.le_refl _) (by omega))
    | succ r ih =>
      intro j hjr hD
      have hj : j < n := by omega
      have hi40 : j < 40 := Nat.lt_of_lt_of_le hj hC.1.2.2
      obtain ⟨pt, k, hL⟩ := hC.2.1 j hj
      refine q_iload F dX4_hasAuthority_3 rfl ?_
      refine q_aload_n F 0 dX4_hasAuthority_5 rfl rfl ?_
      refine qg_X4_47 F hG.1 dX4_hasAuthority_6 ?_
      refine q_icmp_ge F 69 dX4_hasAuthority_9 rfl (fun c9 => ?_) (fun c9 => ?_)
      · exact absurd c9 (gF hC.1.1 rfl hj (by omega))
      refine q_aload_n F 0 dX4_hasAuthority_12 rfl rfl ?_
      refine qg_X4_11 F hG.2.1.1 hG.1 dX4_hasAuthority_13 ?_
      refine q_iload F dX4_hasAuthority_16 rfl ?_
      refine q_aald_l F hG.2.1.2.1 hG.2.1.2.2 rfl hi40 (by decide) (hG.2.2.2.2.1 _ hi40).1 dX4_hasAuthority_18 ?_
      refine q_astore F dX4_hasAuthority_19 (by decide) rfl ?_
      refine q_aload F dX4_hasAuthority_21 rfl ?_
      refine qg_X4_155 F (hG.2.2.2.2.1 _ hi40).2.1 dX4_hasAuthority_23 ?_
      refine q_iconst F dX4_hasAuthority_26 hc_2 ?_
      refine q_icmp_ne F 63 dX4_hasAuthority_27 rfl (fun c27 => ?_) (fun c27 => ?_)
      · refine q_iinc F (nI (j + 1)) dX4_hasAuthority_63 rfl (nI_inc j) (by decide) rfl ?_
        refine q_goto F 3 dX4_hasAuthority_66 rfl ?_
        exact q_to (ih (j + 1) (by omega) (anyN_s hD (by rw [cL_ln hL]; first | (simp [c27]; done) | (simp [c27, c36]; done) | (rw [hday] at c48; simp [b2_n0 c48]; done) | (simp [b2_0.mp c58]; done)))) ⟨rfl, rfl, rfl, rfl, rfl, trivial⟩
      refine q_aload F dX4_hasAuthority_30 rfl ?_
      refine qg_X4_65 F (hG.2.2.2.2.1 _ hi40).2.1 dX4_hasAuthority_32 ?_
      refine q_iload_n F 1 dX4_hasAuthority_35 rfl rfl ?_
      refine q_icmp_ne F 63 dX4_hasAuthority_36 rfl (fun c36 => ?_) (fun c36 => ?_)
      · refine q_iinc F (nI (j + 1)) dX4_hasAuthority_63 rfl (nI_inc j) (by decide) rfl ?_
        refine q_goto F 3 dX4_hasAuthority_66 rfl ?_
        exact q_to (ih (j + 1) (by omega) (anyN_s hD (by rw [cL_ln hL]; first | (simp [c27]; done) | (simp [c27, c36]; done) | (rw [hday] at c48; simp [b2_n0 c48]; done) | (simp [b2_0.mp c58]; done)))) ⟨rfl, rfl, rfl, rfl, rfl, trivial⟩
      refine q_aload F dX4_hasAuthority_39 rfl ?_
      refine q_aload_n F 0 dX4_hasAuthority_41 rfl rfl ?_
      refine qg_X4_146 F hG.1 dX4_hasAuthority_42 ?_
      refine q_callV_i F (c_X1_hasEnded (hG.2.2.2.2.1 _ hi40).2.1) gX4_hasAuthority_X1_hasEnded rfl hd_X1_hasEnded ⟨Nat.le_of_ble_eq_true rfl, Nat.le_of_ble_eq_true rfl⟩ (hG.2.2.2.2.1 _ hi40).2.1 rfl rfl rfl (Nat.le_of_ble_eq_true rfl) dX4_hasAuthority_45 ⟨Nat.le_of_ble_eq_true rfl, Nat.le_of_ble_eq_true rfl⟩ ?_
      refine q_if_ne F 63 dX4_hasAuthority_48 rfl (fun c48 => ?_) (fun c48 => ?_)
      · refine q_iinc F (nI (j + 1)) dX4_hasAuthority_63 rfl (nI_inc j) (by decide) rfl ?_
        refine q_goto F 3 dX4_hasAuthority_66 rfl ?_
        exact q_to (ih (j + 1) (by omega) (anyN_s hD (by rw [cL_ln hL]; first | (simp [c27]; done) | (simp [c27, c36]; done) | (rw [hday] at c48; simp [b2_n0 c48]; done) | (simp [b2_0.mp c58]; done)))) ⟨rfl, rfl, rfl, rfl, rfl, trivial⟩
      refine q_aload F dX4_hasAuthority_51 rfl ?_
      refine q_iload_n F 2 dX4_hasAuthority_53 rfl rfl ?_
      refine q_iload_n F 3 dX4_hasAuthority_54 rfl rfl ?_
      refine q_callV_i F (c_X1_covers (hG.2.2.2.2.1 _ hi40).2 hL) gX4_hasAuthority_X1_covers rfl hd_X1_covers ⟨Nat.le_of_ble_eq_true rfl, Nat.le_of_ble_eq_true rfl⟩ (hG.2.2.2.2.1 _ hi40).2.1 rfl rfl rfl (Nat.le_of_ble_eq_true rfl) dX4_hasAuthority_55 ⟨Nat.le_of_ble_eq_true rfl, Nat.le_of_ble_eq_true rfl⟩ ?_
      refine q_if_eq F 63 dX4_hasAuthority_58 rfl (fun c58 => ?_) (fun c58 => ?_)
      · refine q_iinc F (nI (j + 1)) dX4_hasAuthority_63 rfl (nI_inc j) (by decide) rfl ?_
        refine q_goto F 3 dX4_hasAuthority_66 rfl ?_
        exact q_to (ih (j + 1) (by omega) (anyN_s hD (by rw [cL_ln hL]; first | (simp [c27]; done) | (simp [c27, c36]; done) | (rw [hday] at c48; simp [b2_n0 c48]; done) | (simp [b2_0.mp c58]; done)))) ⟨rfl, rfl, rfl, rfl, rfl, trivial⟩
      refine q_iconst F dX4_hasAuthority_61 hc_1 ?_
      exact (q_reti F hr rfl dX4_hasAuthority_62 (Nat.le_of_ble_eq_true rfl) (Nat.le_of_ble_eq_true rfl) ⟨by rw [anyN_t (f := (ln (sc 1) M 2 au false name port)) hj (by rw [cL_ln hL]; rw [hday] at c48; simp [c27, c36, b2_0.mp c48, b2_n0 c58])]; rfl, rfl⟩)
  exact q_to (L n 0 (by omega) rfl) ⟨rfl, rfl, rfl, rfl, rfl, trivial⟩

set_option maxHeartbeats 4000000 in
set_option maxRecDepth 100000 in
theorem c_X4_isInRevokedSpan {l : Launch} {g : hG} {X : va_W} {S : hS} {h bk ca sa : Nat} {ad pa : Nat → Nat} {sc : Nat → Int32} {M : Nat → Nat → Int32} {n nc ns : Nat} (hG : cG S h bk ca sa ad pa) (hC : cC S h ca sa ad pa sc M n nc ns) {cr ci : Nat} (hR : crR S cr M ci) : hMet l yX4_isInRevokedSpan wsX4_isInRevokedSpan rm_X4_isInRevokedSpan g X S [.ref h, .ref cr] (pI (b2 (rv M ns ci)) S) := by
  refine h_start (maxL := 3) (ret := (some .boolean)) (by decide) rfl (Nat.le_of_ble_eq_true rfl) ?_
  intro p e s m args below meth c F hr hinit
  have hn20 := hC.2.2.2.1.2.2
  refine q_iconst F dX4_isInRevokedSpan_0 hc_0 ?_
  refine q_istore_n F 2 dX4_isInRevokedSpan_1 rfl (by decide) rfl ?_
  have L : ∀ (r j : Nat), j + r = ns → anyN (sp M ci) j = false → V p l e rm_X4_isInRevokedSpan s m args below meth c 3 g X (MQ below (hQ g X (pI (b2 (rv M ns ci)) S)) args s rm_X4_isInRevokedSpan.cells rm_X4_isInRevokedSpan.slots (hA g)) S 0 0 [(0, .ref h), (1, .ref cr), (2, .int (nI j))] 2 [] := by
    intro r
    induction r with
    | zero =>
      intro j hjr hD
      have hjn : j = ns := by omega
      subst hjn
      refine q_iload_n F 2 dX4_isInRevokedSpan_2 rfl rfl ?_
      refine q_aload_n F 0 dX4_isInRevokedSpan_3 rfl rfl ?_
      refine qg_X4_84 F hG.1 dX4_isInRevokedSpan_4 ?_
      refine q_icmp_ge F 38 dX4_isInRevokedSpan_7 rfl (fun c7 => ?_) (fun c7 => ?_)
      · refine q_iconst F dX4_isInRevokedSpan_38 hc_0 ?_
        exact (q_reti F hr rfl dX4_isInRevokedSpan_39 (Nat.le_of_ble_eq_true rfl) (Nat.le_of_ble_eq_true rfl) ⟨by rw [rv, hD]; rfl, rfl⟩)
      exact absurd c7 (gT hC.2.2.2.1.1 rfl (Nat.le_refl _) (by omega))
    | succ r ih =>
      intro j hjr hD
      have hj : j < ns := by omega
      obtain ⟨z, hz, hsp⟩ := hC.2.2.2.2.2.2.2 j hj
      have hsq := sp_of hsp hR
      refine q_iload_n F 2 dX4_isInRevokedSpan_2 rfl rfl ?_
      refine q_aload_n F 0 dX4_isInRevokedSpan_3 rfl rfl ?_
      refine qg_X4_84 F hG.1 dX4_isInRevokedSpan_4 ?_
      refine q_icmp_ge F 38 dX4_isInRevokedSpan_7 rfl (fun c7 => ?_) (fun c7 => ?_)
      · exact absurd c7 (gF hC.2.2.2.1.1 rfl hj (by omega))
      refine q_aload_n F 0 dX4_isInRevokedSpan_10 rfl rfl ?_
      refine qg_X4_23 F hG.2.2.2.1.1 hG.1 dX4_isInRevokedSpan_11 ?_
      refine q_iload_n F 2 dX4_isInRevokedSpan_14 rfl rfl ?_
      refine q_aald_s F hG.2.2.2.1.2.1 hG.2.2.2.1.2.2 rfl (by omega) (by decide) hz dX4_isInRevokedSpan_15 ?_
      refine q_aload_n F 1 dX4_isInRevokedSpan_16 rfl rfl ?_
      refine qg_X4_219 F hR.1 dX4_isInRevokedSpan_17 ?_
      refine q_aload_n F 1 dX4_isInRevokedSpan_20 rfl rfl ?_
      refine qg_X4_245 F hR.1 dX4_isInRevokedSpan_21 ?_
      refine q_callV_i F (c_X3_holds hsp.1) gX4_isInRevokedSpan_X3_holds rfl hd_X3_holds ⟨Nat.le_of_ble_eq_true rfl, Nat.le_of_ble_eq_true rfl⟩ hsp.1 rfl rfl rfl (Nat.le_of_ble_eq_true rfl) dX4_isInRevokedSpan_24 ⟨Nat.le_of_ble_eq_true rfl, Nat.le_of_ble_eq_true rfl⟩ ?_
      refine q_if_eq F 32 dX4_isInRevokedSpan_27 rfl (fun c27 => ?_) (fun c27 => ?_)
      · refine q_iinc F (nI (j + 1)) dX4_isInRevokedSpan_32 rfl (nI_inc j) (by decide) rfl ?_
        refine q_goto F 2 dX4_isInRevokedSpan_35 rfl ?_
        exact q_to (ih (j + 1) (by omega) (anyN_s hD (by rw [hsq]; simpa [b2_0] using c27))) ⟨rfl, rfl, rfl, trivial⟩
      refine q_iconst F dX4_isInRevokedSpan_30 hc_1 ?_
      exact (q_reti F hr rfl dX4_isInRevokedSpan_31 (Nat.le_of_ble_eq_true rfl) (Nat.le_of_ble_eq_true rfl) ⟨by rw [rv, anyN_t hj (by rw [hsq]; simpa [b2_0] using c27)]; rfl, rfl⟩)
  exact q_to (L ns 0 (by omega) rfl) ⟨rfl, rfl, rfl, trivial⟩

set_option maxHeartbeats 4000000 in
set_option maxRecDepth 100000 in
theorem c_X4_countRevokedCertificates {l : Launch} {g : hG} {X : va_W} {S : hS} {h bk ca sa : Nat} {ad pa : Nat → Nat} {sc : Nat → Int32} {M : Nat → Nat → Int32} {n nc ns : Nat} (hG : cG S h bk ca sa ad pa) (hC : cC S h ca sa ad pa sc M n nc ns) : hMet l yX4_countRevokedCertificates wsX4_countRevokedCertificates rm_X4_countRevokedCertificates g X S [.ref h] (pI (cntN (rv M ns) nc) S) := by
  refine h_start (maxL := 3) (ret := (some .int)) (by decide) rfl (Nat.le_of_ble_eq_true rfl) ?_
  intro p e s m args below meth c F hr hinit
  have hn20 := hC.2.2.1.2.2
  refine q_iconst F dX4_countRevokedCertificates_0 hc_0 ?_
  refine q_istore_n F 1 dX4_countRevokedCertificates_1 rfl (by decide) rfl ?_
  refine q_iconst F dX4_countRevokedCertificates_2 hc_0 ?_
  refine q_istore_n F 2 dX4_countRevokedCertificates_3 rfl (by decide) rfl ?_
  have L : ∀ (r j : Nat), j + r = nc → V p l e rm_X4_countRevokedCertificates s m args below meth c 3 g X (MQ below (hQ g X (pI (cntN (rv M ns) nc) S)) args s rm_X4_countRevokedCertificates.cells rm_X4_countRevokedCertificates.slots (hA g)) S 0 0 [(0, .ref h), (1, .int (cntN (rv M ns) j)), (2, .int (nI j))] 4 [] := by
    intro r
    induction r with
    | zero =>
      intro j hjr
      have hjn : j = nc := by omega
      subst hjn
      refine q_iload_n F 2 dX4_countRevokedCertificates_4 rfl rfl ?_
      refine q_aload_n F 0 dX4_countRevokedCertificates_5 rfl rfl ?_
      refine qg_X4_71 F hG.1 dX4_countRevokedCertificates_6 ?_
      refine q_icmp_ge F 34 dX4_countRevokedCertificates_9 rfl (fun c9 => ?_) (fun c9 => ?_)
      · refine q_iload_n F 1 dX4_countRevokedCertificates_34 rfl rfl ?_
        exact (q_reti F hr rfl dX4_countRevokedCertificates_35 (Nat.le_of_ble_eq_true rfl) (Nat.le_of_ble_eq_true rfl) ⟨rfl, rfl⟩)
      exact absurd c9 (gT hC.2.2.1.1 rfl (Nat.le_refl _) (by omega))
    | succ r ih =>
      intro j hjr
      have hj : j < nc := by omega
      obtain ⟨z, hz, hR⟩ := hC.2.2.2.2.2.2.1 j hj
      refine q_iload_n F 2 dX4_countRevokedCertificates_4 rfl rfl ?_
      refine q_aload_n F 0 dX4_countRevokedCertificates_5 rfl rfl ?_
      refine qg_X4_71 F hG.1 dX4_countRevokedCertificates_6 ?_
      refine q_icmp_ge F 34 dX4_countRevokedCertificates_9 rfl (fun c9 => ?_) (fun c9 => ?_)
      · exact absurd c9 (gF hC.2.2.1.1 rfl hj (by omega))
      refine q_aload_n F 0 dX4_countRevokedCertificates_12 rfl rfl ?_
      refine q_aload_n F 0 dX4_countRevokedCertificates_13 rfl rfl ?_
      refine qg_X4_17 F hG.2.2.1.1 hG.1 dX4_countRevokedCertificates_14 ?_
      refine q_iload_n F 2 dX4_countRevokedCertificates_17 rfl rfl ?_
      refine q_aald_c F hG.2.2.1.2.1 hG.2.2.1.2.2 rfl (by omega) (by decide) hz dX4_countRevokedCertificates_18 ?_
      refine q_callV_i F (c_X4_isInRevokedSpan hG hC hR) gX4_countRevokedCertificates_X4_isInRevokedSpan rfl hd_X4_isInRevokedSpan ⟨Nat.le_of_ble_eq_true rfl, Nat.le_of_ble_eq_true rfl⟩ hG.1 rfl rfl rfl (Nat.le_of_ble_eq_true rfl) dX4_countRevokedCertificates_19 ⟨Nat.le_of_ble_eq_true rfl, Nat.le_of_ble_eq_true rfl⟩ ?_
      refine q_if_eq F 28 dX4_countRevokedCertificates_22 rfl (fun c22 => ?_) (fun c22 => ?_)
      · refine q_iinc F (nI (j + 1)) dX4_countRevokedCertificates_28 rfl (nI_inc j) (by decide) rfl ?_
        refine q_goto F 4 dX4_countRevokedCertificates_31 rfl ?_
        exact q_to (ih (j + 1) (by omega)) ⟨rfl, congrArg (fun z => some (Value.int z)) (by rw [cntN]; simp only [b2_0, Bool.not_eq_false] at c22; rw [c22]; first | rfl | exact (Int32.add_zero _).symm), rfl, trivial⟩
      refine q_iinc F _ dX4_countRevokedCertificates_25 rfl rfl (by decide) rfl ?_
      refine q_iinc F (nI (j + 1)) dX4_countRevokedCertificates_28 rfl (nI_inc j) (by decide) rfl ?_
      refine q_goto F 4 dX4_countRevokedCertificates_31 rfl ?_
      exact q_to (ih (j + 1) (by omega)) ⟨rfl, congrArg (fun z => some (Value.int z)) (by rw [cntN]; simp only [b2_0, Bool.not_eq_false] at c22; rw [c22]; first | rfl | exact (Int32.add_zero _).symm), rfl, trivial⟩
  exact q_to (L nc 0 (by omega)) ⟨rfl, rfl, rfl, trivial⟩

set_option maxHeartbeats 4000000 in
set_option maxRecDepth 100000 in
theorem c_X4_isGood {l : Launch} {g : hG} {X : va_W} {S : hS} {h bk ca sa : Nat} {ad pa : Nat → Nat} {sc : Nat → Int32} {M : Nat → Nat → Int32} {n nc ns : Nat} (hG : cG S h bk ca sa ad pa) (hC : cC S h ca sa ad pa sc M n nc ns) {cr ci : Nat} {name port : Int32} (hR : crR S cr M ci) : hMet l yX4_isGood wsX4_isGood rm_X4_isGood g X S [.ref h, .ref cr, .int name, .int port] (pI (b2 (gd (sc 1) M n ns ci name port)) S) := by
  refine h_start (maxL := 4) (ret := (some .boolean)) (by decide) rfl (Nat.le_of_ble_eq_true rfl) ?_
  intro p e s m args below meth c F hr hinit
  have hday := hC.2.2.2.2.1.1
  obtain ⟨hR0, r18, r19, r20, r21, r22, r23, r24⟩ := id hR
  refine q_aload_n F 1 dX4_isGood_0 rfl rfl ?_
  refine qg_X4_222 F hR.1 dX4_isGood_1 ?_
  refine q_aload_n F 1 dX4_isGood_4 rfl rfl ?_
  refine qg_X4_225 F hR.1 dX4_isGood_5 ?_
  refine q_iload_n F 2 dX4_isGood_8 rfl rfl ?_
  refine q_callS_i F (c_X4_isSameAt) gX4_isGood_X4_isSameAt rfl hd_X4_isSameAt ⟨Nat.le_of_ble_eq_true rfl, Nat.le_of_ble_eq_true rfl⟩ rfl rfl (Nat.le_of_ble_eq_true rfl) dX4_isGood_9 ⟨Nat.le_of_ble_eq_true rfl, Nat.le_of_ble_eq_true rfl⟩ ?_
  refine q_if_eq F 62 dX4_isGood_12 rfl (fun c12 => ?_) (fun c12 => ?_)
  · refine q_iconst F dX4_isGood_62 hc_0 ?_
    exact (q_reti F hr rfl dX4_isGood_63 (Nat.le_of_ble_eq_true rfl) (Nat.le_of_ble_eq_true rfl) ⟨by unfold gd; rw [← r18, ← r20, ← r21, ← r23, ← r24]; first | (simp [b2_0.mp c12, b2]; done) | (rw [hday] at c23; simp [Int32.not_le.mpr c23, b2]; done) | (rw [hday] at c34; simp [Int32.not_le.mpr c34, b2]; done) | (simp [b2_n0 c42, b2]; done) | (simp [b2_0.mp c55, b2]; done) | (rw [hday] at c23 c34; simp [b2_n0 c12, Int32.not_lt.mp c23, Int32.not_lt.mp c34, b2_0.mp c42, b2_n0 c55, b2]), rfl⟩)
  refine q_aload_n F 0 dX4_isGood_15 rfl rfl ?_
  refine qg_X4_146 F hG.1 dX4_isGood_16 ?_
  refine q_aload_n F 1 dX4_isGood_19 rfl rfl ?_
  refine qg_X4_232 F hR.1 dX4_isGood_20 ?_
  refine q_icmp_lt F 62 dX4_isGood_23 rfl (fun c23 => ?_) (fun c23 => ?_)
  · refine q_iconst F dX4_isGood_62 hc_0 ?_
    exact (q_reti F hr rfl dX4_isGood_63 (Nat.le_of_ble_eq_true rfl) (Nat.le_of_ble_eq_true rfl) ⟨by unfold gd; rw [← r18, ← r20, ← r21, ← r23, ← r24]; first | (simp [b2_0.mp c12, b2]; done) | (rw [hday] at c23; simp [Int32.not_le.mpr c23, b2]; done) | (rw [hday] at c34; simp [Int32.not_le.mpr c34, b2]; done) | (simp [b2_n0 c42, b2]; done) | (simp [b2_0.mp c55, b2]; done) | (rw [hday] at c23 c34; simp [b2_n0 c12, Int32.not_lt.mp c23, Int32.not_lt.mp c34, b2_0.mp c42, b2_n0 c55, b2]), rfl⟩)
  refine q_aload_n F 0 dX4_isGood_26 rfl rfl ?_
  refine qg_X4_146 F hG.1 dX4_isGood_27 ?_
  refine q_aload_n F 1 dX4_isGood_30 rfl rfl ?_
  refine qg_X4_235 F hR.1 dX4_isGood_31 ?_
  refine q_icmp_gt F 62 dX4_isGood_34 rfl (fun c34 => ?_) (fun c34 => ?_)
  · refine q_iconst F dX4_isGood_62 hc_0 ?_
    exact (q_reti F hr rfl dX4_isGood_63 (Nat.le_of_ble_eq_true rfl) (Nat.le_of_ble_eq_true rfl) ⟨by unfold gd; rw [← r18, ← r20, ← r21, ← r23, ← r24]; first | (simp [b2_0.mp c12, b2]; done) | (rw [hday] at c23; simp [Int32.not_le.mpr c23, b2]; done) | (rw [hday] at c34; simp [Int32.not_le.mpr c34, b2]; done) | (simp [b2_n0 c42, b2]; done) | (simp [b2_0.mp c55, b2]; done) | (rw [hday] at c23 c34; simp [b2_n0 c12, Int32.not_lt.mp c23, Int32.not_lt.mp c34, b2_0.mp c42, b2_n0 c55, b2]), rfl⟩)
  refine q_aload_n F 0 dX4_isGood_37 rfl rfl ?_
  refine q_aload_n F 1 dX4_isGood_38 rfl rfl ?_
  refine q_callV_i F (c_X4_isInRevokedSpan hG hC hR) gX4_isGood_X4_isInRevokedSpan rfl hd_X4_isInRevokedSpan ⟨Nat.le_of_ble_eq_true rfl, Nat.le_of_ble_eq_true rfl⟩ hG.1 rfl rfl rfl (Nat.le_of_ble_eq_true rfl) dX4_isGood_39 ⟨Nat.le_of_ble_eq_true rfl, Nat.le_of_ble_eq_true rfl⟩ ?_
  refine q_if_ne F 62 dX4_isGood_42 rfl (fun c42 => ?_) (fun c42 => ?_)
  · refine q_iconst F dX4_isGood_62 hc_0 ?_
    exact (q_reti F hr rfl dX4_isGood_63 (Nat.le_of_ble_eq_true rfl) (Nat.le_of_ble_eq_true rfl) ⟨by unfold gd; rw [← r18, ← r20, ← r21, ← r23, ← r24]; first | (simp [b2_0.mp c12, b2]; done) | (rw [hday] at c23; simp [Int32.not_le.mpr c23, b2]; done) | (rw [hday] at c34; simp [Int32.not_le.mpr c34, b2]; done) | (simp [b2_n0 c42, b2]; done) | (simp [b2_0.mp c55, b2]; done) | (rw [hday] at c23 c34; simp [b2_n0 c12, Int32.not_lt.mp c23, Int32.not_lt.mp c34, b2_0.mp c42, b2_n0 c55, b2]), rfl⟩)
  refine q_aload_n F 0 dX4_isGood_45 rfl rfl ?_
  refine q_aload_n F 1 dX4_isGood_46 rfl rfl ?_
  refine qg_X4_219 F hR.1 dX4_isGood_47 ?_
  refine q_iload_n F 2 dX4_isGood_50 rfl rfl ?_
  refine q_iload_n F 3 dX4_isGood_51 rfl rfl ?_
  refine q_callV_i F (c_X4_hasAuthority hG hC) gX4_isGood_X4_hasAuthority rfl hd_X4_hasAuthority ⟨Nat.le_of_ble_eq_true rfl, Nat.le_of_ble_eq_true rfl⟩ hG.1 rfl rfl rfl (Nat.le_of_ble_eq_true rfl) dX4_isGood_52 ⟨Nat.le_of_ble_eq_true rfl, Nat.le_of_ble_eq_true rfl⟩ ?_
  refine q_if_eq F 62 dX4_isGood_55 rfl (fun c55 => ?_) (fun c55 => ?_)
  · refine q_iconst F dX4_isGood_62 hc_0 ?_
    exact (q_reti F hr rfl dX4_isGood_63 (Nat.le_of_ble_eq_true rfl) (Nat.le_of_ble_eq_true rfl) ⟨by unfold gd; rw [← r18, ← r20, ← r21, ← r23, ← r24]; first | (simp [b2_0.mp c12, b2]; done) | (rw [hday] at c23; simp [Int32.not_le.mpr c23, b2]; done) | (rw [hday] at c34; simp [Int32.not_le.mpr c34, b2]; done) | (simp [b2_n0 c42, b2]; done) | (simp [b2_0.mp c55, b2]; done) | (rw [hday] at c23 c34; simp [b2_n0 c12, Int32.not_lt.mp c23, Int32.not_lt.mp c34, b2_0.mp c42, b2_n0 c55, b2]), rfl⟩)
  refine q_iconst F dX4_isGood_58 hc_1 ?_
  refine q_goto F 63 dX4_isGood_59 rfl ?_
  exact (q_reti F hr rfl dX4_isGood_63 (Nat.le_of_ble_eq_true rfl) (Nat.le_of_ble_eq_true rfl) ⟨by unfold gd; rw [← r18, ← r20, ← r21, ← r23, ← r24]; first | (simp [b2_0.mp c12, b2]; done) | (rw [hday] at c23; simp [Int32.not_le.mpr c23, b2]; done) | (rw [hday] at c34; simp [Int32.not_le.mpr c34, b2]; done) | (simp [b2_n0 c42, b2]; done) | (simp [b2_0.mp c55, b2]; done) | (rw [hday] at c23 c34; simp [b2_n0 c12, Int32.not_lt.mp c23, Int32.not_lt.mp c34, b2_0.mp c42, b2_n0 c55, b2]), rfl⟩)
end
section
set_option maxHeartbeats 4000000 in
set_option maxRecDepth 100000 in
theorem c_X4_judgementOf {l : Launch} {g : hG} {X : va_W} {S : hS} {h bk ca sa : Nat} {ad pa : Nat → Nat} {sc : Nat → Int32} {M : Nat → Nat → Int32} {n nc ns : Nat} (hG : cG S h bk ca sa ad pa) (hC : cC S h ca sa ad pa sc M n nc ns) {cr ci : Nat} (hR : crR S cr M ci) {name port key : Int32} : hMet l yX4_judgementOf wsX4_judgementOf rm_X4_judgementOf g X S [.ref h, .int name, .int port, .int key, .ref cr] (pI (jo (sc 1) M n ns name port key ci) S) := by
  refine h_start (maxL := 6) (ret := (some .int)) (by decide) rfl (Nat.le_of_ble_eq_true rfl) ?_
  intro p e s m args below meth c F hr hinit
  obtain ⟨hR0, r18, r19, -⟩ := id hR
  have e18 : jb (sc 1) M name port key (sF S 0 cr) n = jb (sc 1) M name port key (M 18 ci) n := by rw [r18]
  refine q_aload_n F 0 dX4_judgementOf_0 rfl rfl ?_
  refine q_iload_n F 1 dX4_judgementOf_1 rfl rfl ?_
  refine q_iload_n F 2 dX4_judgementOf_2 rfl rfl ?_
  refine q_iload_n F 3 dX4_judgementOf_3 rfl rfl ?_
  refine q_aload F dX4_judgementOf_4 rfl ?_
  refine q_callS_i F (c_X4_authorityOf hR.1) gX4_judgementOf_X4_authorityOf rfl hd_X4_authorityOf ⟨Nat.le_of_ble_eq_true rfl, Nat.le_of_ble_eq_true rfl⟩ rfl rfl (Nat.le_of_ble_eq_true rfl) dX4_judgementOf_6 ⟨Nat.le_of_ble_eq_true rfl, Nat.le_of_ble_eq_true rfl⟩ ?_
  refine q_callV_i F (c_X4_judgementByLines hG hC) gX4_judgementOf_X4_judgementByLines rfl hd_X4_judgementByLines ⟨Nat.le_of_ble_eq_true rfl, Nat.le_of_ble_eq_true rfl⟩ hG.1 rfl rfl rfl (Nat.le_of_ble_eq_true rfl) dX4_judgementOf_9 ⟨Nat.le_of_ble_eq_true rfl, Nat.le_of_ble_eq_true rfl⟩ ?_
  refine q_istore F dX4_judgementOf_12 (by decide) rfl ?_
  refine q_iload F dX4_judgementOf_14 rfl ?_
  refine q_if_eq F 46 dX4_judgementOf_16 rfl (fun c16 => ?_) (fun c16 => ?_)
  · refine q_iload F dX4_judgementOf_46 rfl ?_
    exact (q_reti F hr rfl dX4_judgementOf_48 (Nat.le_of_ble_eq_true rfl) (Nat.le_of_ble_eq_true rfl) ⟨congrArg (fun z => some (Value.int z)) (by unfold jo; rw [← r19]; first | (rw [if_neg (fun z => z.1 (by rw [← e18]; exact c16))]; exact e18) | (rw [if_neg (fun z => c30 z.2.1)]; exact e18) | (rw [if_neg (fun z => by rw [z.2.2] at c41; exact absurd c41 (by decide))]; exact e18) | (rw [if_pos ⟨fun z => c16 (by rw [e18]; exact z), c30, b2_n0 c41⟩])), rfl⟩)
  refine q_aload F dX4_judgementOf_19 rfl ?_
  refine q_ifnull F dX4_judgementOf_21 ?_
  refine q_aload F dX4_judgementOf_24 rfl ?_
  refine qg_X4_200 F hR.1 dX4_judgementOf_26 ?_
  refine q_iload_n F 3 dX4_judgementOf_29 rfl rfl ?_
  refine q_icmp_ne F 46 dX4_judgementOf_30 rfl (fun c30 => ?_) (fun c30 => ?_)
  · refine q_iload F dX4_judgementOf_46 rfl ?_
    exact (q_reti F hr rfl dX4_judgementOf_48 (Nat.le_of_ble_eq_true rfl) (Nat.le_of_ble_eq_true rfl) ⟨congrArg (fun z => some (Value.int z)) (by unfold jo; rw [← r19]; first | (rw [if_neg (fun z => z.1 (by rw [← e18]; exact c16))]; exact e18) | (rw [if_neg (fun z => c30 z.2.1)]; exact e18) | (rw [if_neg (fun z => by rw [z.2.2] at c41; exact absurd c41 (by decide))]; exact e18) | (rw [if_pos ⟨fun z => c16 (by rw [e18]; exact z), c30, b2_n0 c41⟩])), rfl⟩)
  refine q_aload_n F 0 dX4_judgementOf_33 rfl rfl ?_
  refine q_aload F dX4_judgementOf_34 rfl ?_
  refine q_iload_n F 1 dX4_judgementOf_36 rfl rfl ?_
  refine q_iload_n F 2 dX4_judgementOf_37 rfl rfl ?_
  refine q_callV_i F (c_X4_isGood hG hC hR) gX4_judgementOf_X4_isGood rfl hd_X4_isGood ⟨Nat.le_of_ble_eq_true rfl, Nat.le_of_ble_eq_true rfl⟩ hG.1 rfl rfl rfl (Nat.le_of_ble_eq_true rfl) dX4_judgementOf_38 ⟨Nat.le_of_ble_eq_true rfl, Nat.le_of_ble_eq_true rfl⟩ ?_
  refine q_if_eq F 46 dX4_judgementOf_41 rfl (fun c41 => ?_) (fun c41 => ?_)
  · refine q_iload F dX4_judgementOf_46 rfl ?_
    exact (q_reti F hr rfl dX4_judgementOf_48 (Nat.le_of_ble_eq_true rfl) (Nat.le_of_ble_eq_true rfl) ⟨congrArg (fun z => some (Value.int z)) (by unfold jo; rw [← r19]; first | (rw [if_neg (fun z => z.1 (by rw [← e18]; exact c16))]; exact e18) | (rw [if_neg (fun z => c30 z.2.1)]; exact e18) | (rw [if_neg (fun z => by rw [z.2.2] at c41; exact absurd c41 (by decide))]; exact e18) | (rw [if_pos ⟨fun z => c16 (by rw [e18]; exact z), c30, b2_n0 c41⟩])), rfl⟩)
  refine q_iconst F dX4_judgementOf_44 hc_1 ?_
  exact (q_reti F hr rfl dX4_judgementOf_45 (Nat.le_of_ble_eq_true rfl) (Nat.le_of_ble_eq_true rfl) ⟨congrArg (fun z => some (Value.int z)) (by unfold jo; rw [← r19]; first | (rw [if_neg (fun z => z.1 (by rw [← e18]; exact c16))]; exact e18) | (rw [if_neg (fun z => c30 z.2.1)]; exact e18) | (rw [if_neg (fun z => by rw [z.2.2] at c41; exact absurd c41 (by decide))]; exact e18) | (rw [if_pos ⟨fun z => c16 (by rw [e18]; exact z), c30, b2_n0 c41⟩])), rfl⟩)

set_option maxHeartbeats 4000000 in
set_option maxRecDepth 100000 in
theorem c_X4_judgementOf_n {l : Launch} {g : hG} {X : va_W} {S : hS} {h bk ca sa : Nat} {ad pa : Nat → Nat} {sc : Nat → Int32} {M : Nat → Nat → Int32} {n nc ns : Nat} (hG : cG S h bk ca sa ad pa) (hC : cC S h ca sa ad pa sc M n nc ns) {name port key : Int32} : hMet l yX4_judgementOf wsX4_judgementOf rm_X4_judgementOf g X S [.ref h, .int name, .int port, .int key, .null] (pI (jb (sc 1) M name port key (-1) n) S) := by
  refine h_start (maxL := 6) (ret := (some .int)) (by decide) rfl (Nat.le_of_ble_eq_true rfl) ?_
  intro p e s m args below meth c F hr hinit
  refine q_aload_n F 0 dX4_judgementOf_0 rfl rfl ?_
  refine q_iload_n F 1 dX4_judgementOf_1 rfl rfl ?_
  refine q_iload_n F 2 dX4_judgementOf_2 rfl rfl ?_
  refine q_iload_n F 3 dX4_judgementOf_3 rfl rfl ?_
  refine q_aloadN F dX4_judgementOf_4 rfl ?_
  refine q_callS_i F (c_X4_authorityOf_n) gX4_judgementOf_X4_authorityOf rfl hd_X4_authorityOf ⟨Nat.le_of_ble_eq_true rfl, Nat.le_of_ble_eq_true rfl⟩ rfl rfl (Nat.le_of_ble_eq_true rfl) dX4_judgementOf_6 ⟨Nat.le_of_ble_eq_true rfl, Nat.le_of_ble_eq_true rfl⟩ ?_
  refine q_callV_i F (c_X4_judgementByLines hG hC) gX4_judgementOf_X4_judgementByLines rfl hd_X4_judgementByLines ⟨Nat.le_of_ble_eq_true rfl, Nat.le_of_ble_eq_true rfl⟩ hG.1 rfl rfl rfl (Nat.le_of_ble_eq_true rfl) dX4_judgementOf_9 ⟨Nat.le_of_ble_eq_true rfl, Nat.le_of_ble_eq_true rfl⟩ ?_
  refine q_istore F dX4_judgementOf_12 (by decide) rfl ?_
  refine q_iload F dX4_judgementOf_14 rfl ?_
  refine q_if_eq F 46 dX4_judgementOf_16 rfl (fun c16 => ?_) (fun c16 => ?_)
  · refine q_iload F dX4_judgementOf_46 rfl ?_
    exact (q_reti F hr rfl dX4_judgementOf_48 (Nat.le_of_ble_eq_true rfl) (Nat.le_of_ble_eq_true rfl) ⟨rfl, rfl⟩)
  refine q_aloadN F dX4_judgementOf_19 rfl ?_
  refine q_ifnullN F 46 dX4_judgementOf_21 rfl ?_
  refine q_iload F dX4_judgementOf_46 rfl ?_
  exact (q_reti F hr rfl dX4_judgementOf_48 (Nat.le_of_ble_eq_true rfl) (Nat.le_of_ble_eq_true rfl) ⟨rfl, rfl⟩)

set_option maxHeartbeats 4000000 in
set_option maxRecDepth 100000 in
theorem c_X4_requireWithin {l : Launch} {g : hG} {X : va_W} {S : hS} (hst : l.stackTraces = false) {v lo hi : Int32} : hMetX l yX4_requireWithin wsX4_requireWithin rm_X4_requireWithin g X S [.int v, .int lo, .int hi] (pXV S (inR v lo hi = true)) (pE S (pe1 (inR v lo hi) xIA)) := by
  refine h_startX (maxL := 3) (ret := none) (by decide) rfl (Nat.le_of_ble_eq_true rfl) ?_
  intro p e s m args below meth c F hr ht
  refine q_iload_n F 0 dX4_requireWithin_0 rfl rfl ?_
  refine q_iload_n F 1 dX4_requireWithin_1 rfl rfl ?_
  refine q_icmp_lt F 10 dX4_requireWithin_2 rfl (fun c2 => ?_) (fun c2 => ?_)
  · exact qt_X4_168 F hst ht dX4_requireWithin_10 dX4_requireWithin_13 dX4_requireWithin_14 dX4_requireWithin_16 dX4_requireWithin_19 ⟨Nat.le_of_ble_eq_true rfl, Nat.le_of_ble_eq_true rfl⟩ ⟨Nat.le_of_ble_eq_true rfl, Nat.le_of_ble_eq_true rfl⟩ (Nat.le_of_ble_eq_true rfl) (Nat.le_of_ble_eq_true rfl) ⟨rfl, by first | exact inR_f1 c2 | exact inR_f2 c7, rfl⟩
  refine q_iload_n F 0 dX4_requireWithin_5 rfl rfl ?_
  refine q_iload_n F 2 dX4_requireWithin_6 rfl rfl ?_
  refine q_icmp_le F 20 dX4_requireWithin_7 rfl (fun c7 => ?_) (fun c7 => ?_)
  · exact q_x (q_retv F hr dX4_requireWithin_20 (Nat.le_of_ble_eq_true rfl) (Nat.le_of_ble_eq_true rfl) ⟨rfl, rfl, inR_t c2 c7⟩)
  exact qt_X4_168 F hst ht dX4_requireWithin_10 dX4_requireWithin_13 dX4_requireWithin_14 dX4_requireWithin_16 dX4_requireWithin_19 ⟨Nat.le_of_ble_eq_true rfl, Nat.le_of_ble_eq_true rfl⟩ ⟨Nat.le_of_ble_eq_true rfl, Nat.le_of_ble_eq_true rfl⟩ (Nat.le_of_ble_eq_true rfl) (Nat.le_of_ble_eq_true rfl) ⟨rfl, by first | exact inR_f1 c2 | exact inR_f2 c7, rfl⟩

set_option maxHeartbeats 4000000 in
set_option maxRecDepth 100000 in
theorem c_X4_requireKey {l : Launch} {g : hG} {X : va_W} {S : hS} (hst : l.stackTraces = false) {key : Int32} : hMetX l yX4_requireKey wsX4_requireKey rm_X4_requireKey g X S [.int key] (pXV S (okK key = true)) (pE S (pe1 (okK key) xIA)) := by
  refine h_startX (maxL := 1) (ret := none) (by decide) rfl (Nat.le_of_ble_eq_true rfl) ?_
  intro p e s m args below meth c F hr ht
  refine q_iload_n F 0 dX4_requireKey_0 rfl rfl ?_
  refine q_iconst F dX4_requireKey_1 hc_0 ?_
  refine q_sipush (v := 199) F dX4_requireKey_2 (by decide) ?_
  refine q_callSX_v F (c_X4_requireWithin hst) gX4_requireKey_X4_requireWithin rfl hd_X4_requireWithin ⟨Nat.le_of_ble_eq_true rfl, Nat.le_of_ble_eq_true rfl⟩ rfl rfl (Nat.le_of_ble_eq_true rfl) dX4_requireKey_5 ⟨Nat.le_of_ble_eq_true rfl, Nat.le_of_ble_eq_true rfl⟩ (fun E hE => q_out F ht (Nat.le_of_ble_eq_true rfl) (Nat.le_of_ble_eq_true rfl) ⟨rfl, hE⟩) (fun k5 => ?_)
  exact q_x (q_retv F hr dX4_requireKey_8 (Nat.le_of_ble_eq_true rfl) (Nat.le_of_ble_eq_true rfl) ⟨rfl, rfl, k5⟩)

set_option maxHeartbeats 4000000 in
set_option maxRecDepth 100000 in
theorem c_X4_requireNameAndPort {l : Launch} {g : hG} {X : va_W} {S : hS} (hst : l.stackTraces = false) {name port : Int32} : hMetX l yX4_requireNameAndPort wsX4_requireNameAndPort rm_X4_requireNameAndPort g X S [.int name, .int port] (pXV S (okNP name port = true)) (pE S (pe1 (okNP name port) xIA)) := by
  refine h_startX (maxL := 2) (ret := none) (by decide) rfl (Nat.le_of_ble_eq_true rfl) ?_
  intro p e s m args below meth c F hr ht
  refine q_iload_n F 0 dX4_requireNameAndPort_0 rfl rfl ?_
  refine q_iconst F dX4_requireNameAndPort_1 hc_0 ?_
  refine q_sipush (v := 9999) F dX4_requireNameAndPort_2 (by decide) ?_
  refine q_callSX_v F (c_X4_requireWithin hst) gX4_requireNameAndPort_X4_requireWithin rfl hd_X4_requireWithin ⟨Nat.le_of_ble_eq_true rfl, Nat.le_of_ble_eq_true rfl⟩ rfl rfl (Nat.le_of_ble_eq_true rfl) dX4_requireNameAndPort_5 ⟨Nat.le_of_ble_eq_true rfl, Nat.le_of_ble_eq_true rfl⟩ (fun E hE => q_out F ht (Nat.le_of_ble_eq_true rfl) (Nat.le_of_ble_eq_true rfl) ⟨rfl, (by unfold okNP okN; rw [hE.1]; rfl), hE.2⟩) (fun k5 => ?_)
  refine q_iload_n F 1 dX4_requireNameAndPort_8 rfl rfl ?_
  refine q_iconst F dX4_requireNameAndPort_9 hc_0 ?_
  refine q_iconst F dX4_requireNameAndPort_10 hc_3 ?_
  refine q_callSX_v F (c_X4_requireWithin hst) gX4_requireNameAndPort_X4_requireWithin rfl hd_X4_requireWithin ⟨Nat.le_of_ble_eq_true rfl, Nat.le_of_ble_eq_true rfl⟩ rfl rfl (Nat.le_of_ble_eq_true rfl) dX4_requireNameAndPort_11 ⟨Nat.le_of_ble_eq_true rfl, Nat.le_of_ble_eq_true rfl⟩ (fun E hE => q_out F ht (Nat.le_of_ble_eq_true rfl) (Nat.le_of_ble_eq_true rfl) ⟨rfl, (by unfold okNP okP; rw [hE.1, Bool.and_false]), hE.2⟩) (fun k11 => ?_)
  exact q_x (q_retv F hr dX4_requireNameAndPort_14 (Nat.le_of_ble_eq_true rfl) (Nat.le_of_ble_eq_true rfl) ⟨rfl, rfl, by unfold okNP okN okP; rw [k5, k11]; rfl⟩)

set_option maxHeartbeats 4000000 in
set_option maxRecDepth 100000 in
theorem c_X4_lineAt {l : Launch} {g : hG} {X : va_W} {S : hS} (hst : l.stackTraces = false) {h bk ca sa : Nat} {ad pa : Nat → Nat} {sc : Nat → Int32} {M : Nat → Nat → Int32} {n nc ns : Nat} (hG : cG S h bk ca sa ad pa) (hC : cC S h ca sa ad pa sc M n nc ns) {i : Int32} : hMetX l yX4_lineAt wsX4_lineAt rm_X4_lineAt g X S [.ref h, .int i] (pXA (ad i.toNatClampNeg) S (inL i n = true)) (pE S (pe1 (inL i n) xIO)) := by
  refine h_startX (maxL := 2) (ret := (some (.object "HostKeyring$Line"))) (by decide) rfl (Nat.le_of_ble_eq_true rfl) ?_
  intro p e s m args below meth c F hr ht
  refine q_iload_n F 1 dX4_lineAt_0 rfl rfl ?_
  refine q_if_lt F 12 dX4_lineAt_1 rfl (fun c1 => ?_) (fun c1 => ?_)
  · exact qt_X4_172 F hst ht dX4_lineAt_12 dX4_lineAt_15 dX4_lineAt_16 dX4_lineAt_18 dX4_lineAt_21 ⟨Nat.le_of_ble_eq_true rfl, Nat.le_of_ble_eq_true rfl⟩ ⟨Nat.le_of_ble_eq_true rfl, Nat.le_of_ble_eq_true rfl⟩ (Nat.le_of_ble_eq_true rfl) (Nat.le_of_ble_eq_true rfl) ⟨rfl, by first | exact inL_f1 c1 | exact inL_f2 (by rw [← hC.1.1]; exact c9), rfl⟩
  refine q_iload_n F 1 dX4_lineAt_4 rfl rfl ?_
  refine q_aload_n F 0 dX4_lineAt_5 rfl rfl ?_
  refine qg_X4_47 F hG.1 dX4_lineAt_6 ?_
  refine q_icmp_lt F 22 dX4_lineAt_9 rfl (fun c9 => ?_) (fun c9 => ?_)
  · have hn40 := hC.1.2.2
    have hin : inL i n = true := inL_t c1 (by rw [← hC.1.1]; exact c9)
    obtain ⟨j, hj, rfl⟩ := inL_get hin (by omega)
    have hcl : (nI j).toNatClampNeg = j := nI_clamp (by omega)
    have hi40 : j < 40 := by omega
    refine q_aload_n F 0 dX4_lineAt_22 rfl rfl ?_
    refine qg_X4_11 F hG.2.1.1 hG.1 dX4_lineAt_23 ?_
    refine q_iload_n F 1 dX4_lineAt_26 rfl rfl ?_
    refine q_aald_l F hG.2.1.2.1 hG.2.1.2.2 rfl hi40 (by decide) (hG.2.2.2.2.1 _ hi40).1 dX4_lineAt_27 ?_
    exact q_x (q_reta F hr (Or.inl ⟨_, rfl⟩) (Or.inr ⟨_, rfl⟩) dX4_lineAt_28 (Nat.le_of_ble_eq_true rfl) (Nat.le_of_ble_eq_true rfl) ⟨by rw [hcl], rfl, hin⟩)
  exact qt_X4_172 F hst ht dX4_lineAt_12 dX4_lineAt_15 dX4_lineAt_16 dX4_lineAt_18 dX4_lineAt_21 ⟨Nat.le_of_ble_eq_true rfl, Nat.le_of_ble_eq_true rfl⟩ ⟨Nat.le_of_ble_eq_true rfl, Nat.le_of_ble_eq_true rfl⟩ (Nat.le_of_ble_eq_true rfl) (Nat.le_of_ble_eq_true rfl) ⟨rfl, by first | exact inL_f1 c1 | exact inL_f2 (by rw [← hC.1.1]; exact c9), rfl⟩

set_option maxHeartbeats 4000000 in
set_option maxRecDepth 100000 in
theorem c_X4_certificateAt {l : Launch} {g : hG} {X : va_W} {S : hS} (hst : l.stackTraces = false) {h bk ca sa : Nat} {ad pa : Nat → Nat} {sc : Nat → Int32} {M : Nat → Nat → Int32} {n nc ns : Nat} (hG : cG S h bk ca sa ad pa) (hC : cC S h ca sa ad pa sc M n nc ns) {i : Int32} (hi : ¬ i = -1) : hMetX l yX4_certificateAt wsX4_certificateAt rm_X4_certificateAt g X S [.ref h, .int i] (pXA ((sB S ca i.toNatClampNeg).getD 0) S (inL i nc = true)) (pE S (pe1 (inL i nc) xIO)) := by
  refine h_startX (maxL := 2) (ret := (some (.object "HostKeyring$Certificate"))) (by decide) rfl (Nat.le_of_ble_eq_true rfl) ?_
  intro p e s m args below meth c F hr ht
  refine q_iload_n F 1 dX4_certificateAt_0 rfl rfl ?_
  refine q_iconst F dX4_certificateAt_1 hc_m1 ?_
  refine q_icmp_ne F 7 dX4_certificateAt_2 rfl (fun c2 => ?_) (fun c2 => ?_)
  · refine q_iload_n F 1 dX4_certificateAt_7 rfl rfl ?_
    refine q_if_lt F 19 dX4_certificateAt_8 rfl (fun c8 => ?_) (fun c8 => ?_)
    · exact qt_X4_175 F hst ht dX4_certificateAt_19 dX4_certificateAt_22 dX4_certificateAt_23 dX4_certificateAt_25 dX4_certificateAt_28 ⟨Nat.le_of_ble_eq_true rfl, Nat.le_of_ble_eq_true rfl⟩ ⟨Nat.le_of_ble_eq_true rfl, Nat.le_of_ble_eq_true rfl⟩ (Nat.le_of_ble_eq_true rfl) (Nat.le_of_ble_eq_true rfl) ⟨rfl, by first | exact inL_f1 c8 | exact inL_f2 (by rw [← hC.2.2.1.1]; exact c16), rfl⟩
    refine q_iload_n F 1 dX4_certificateAt_11 rfl rfl ?_
    refine q_aload_n F 0 dX4_certificateAt_12 rfl rfl ?_
    refine qg_X4_71 F hG.1 dX4_certificateAt_13 ?_
    refine q_icmp_lt F 29 dX4_certificateAt_16 rfl (fun c16 => ?_) (fun c16 => ?_)
    · have hn20 := hC.2.2.1.2.2
      have hin : inL i nc = true := inL_t c8 (by rw [← hC.2.2.1.1]; exact c16)
      obtain ⟨j, hj, rfl⟩ := inL_get hin (by omega)
      have hcl : (nI j).toNatClampNeg = j := nI_clamp (by omega)
      obtain ⟨z, hz, hR⟩ := hC.2.2.2.2.2.2.1 j hj
      refine q_aload_n F 0 dX4_certificateAt_29 rfl rfl ?_
      refine qg_X4_17 F hG.2.2.1.1 hG.1 dX4_certificateAt_30 ?_
      refine q_iload_n F 1 dX4_certificateAt_33 rfl rfl ?_
      refine q_aald_c F hG.2.2.1.2.1 hG.2.2.1.2.2 rfl (by omega) (by decide) hz dX4_certificateAt_34 ?_
      exact q_x (q_reta F hr (Or.inl ⟨_, rfl⟩) (Or.inr ⟨_, rfl⟩) dX4_certificateAt_35 (Nat.le_of_ble_eq_true rfl) (Nat.le_of_ble_eq_true rfl) ⟨by rw [hcl, hz]; rfl, rfl, hin⟩)
    exact qt_X4_175 F hst ht dX4_certificateAt_19 dX4_certificateAt_22 dX4_certificateAt_23 dX4_certificateAt_25 dX4_certificateAt_28 ⟨Nat.le_of_ble_eq_true rfl, Nat.le_of_ble_eq_true rfl⟩ ⟨Nat.le_of_ble_eq_true rfl, Nat.le_of_ble_eq_true rfl⟩ (Nat.le_of_ble_eq_true rfl) (Nat.le_of_ble_eq_true rfl) ⟨rfl, by first | exact inL_f1 c8 | exact inL_f2 (by rw [← hC.2.2.1.1]; exact c16), rfl⟩
  exact absurd c2 hi

set_option maxHeartbeats 4000000 in
set_option maxRecDepth 100000 in
theorem c_X4_certificateAt_n {l : Launch} {g : hG} {X : va_W} {S : hS} {h : Nat} : hMetX l yX4_certificateAt wsX4_certificateAt rm_X4_certificateAt g X S [.ref h, .int (-1)] (pXO none S True) (pE S (fun _ => False)) := by
  refine h_startX (maxL := 2) (ret := (some (.object "HostKeyring$Certificate"))) (by decide) rfl (Nat.le_of_ble_eq_true rfl) ?_
  intro p e s m args below meth c F hr ht
  refine q_iload_n F 1 dX4_certificateAt_0 rfl rfl ?_
  refine q_iconst F dX4_certificateAt_1 hc_m1 ?_
  refine q_icmp_ne F 7 dX4_certificateAt_2 rfl (fun c2 => ?_) (fun c2 => ?_)
  · exact absurd c2 (not_not_intro rfl)
  refine q_null F dX4_certificateAt_5 ?_
  exact q_x (q_reta F hr (Or.inl ⟨_, rfl⟩) (Or.inl rfl) dX4_certificateAt_6 (Nat.le_of_ble_eq_true rfl) (Nat.le_of_ble_eq_true rfl) ⟨rfl, rfl, trivial⟩)

set_option maxHeartbeats 4000000 in
set_option maxRecDepth 100000 in
theorem c_X4_judgeByReading {l : Launch} {g : hG} {X : va_W} {S : hS} (hst : l.stackTraces = false) {h bk ca sa : Nat} {ad pa : Nat → Nat} {sc : Nat → Int32} {M : Nat → Nat → Int32} {n nc ns : Nat} (hG : cG S h bk ca sa ad pa) (hC : cC S h ca sa ad pa sc M n nc ns) {name port key : Int32} : hMetX l yX4_judgeByReading wsX4_judgeByReading rm_X4_judgeByReading g X S [.ref h, .int name, .int port, .int key] (pXI (jb (sc 1) M name port key (-1) n) S ((okNP name port && okK key) = true)) (pE S (pe1 (okNP name port && okK key) xIA)) := by
  refine h_startX (maxL := 4) (ret := (some .int)) (by decide) rfl (Nat.le_of_ble_eq_true rfl) ?_
  intro p e s m args below meth c F hr ht
  refine q_iload_n F 1 dX4_judgeByReading_0 rfl rfl ?_
  refine q_iload_n F 2 dX4_judgeByReading_1 rfl rfl ?_
  refine q_callSX_v F (c_X4_requireNameAndPort hst) gX4_judgeByReading_X4_requireNameAndPort rfl hd_X4_requireNameAndPort ⟨Nat.le_of_ble_eq_true rfl, Nat.le_of_ble_eq_true rfl⟩ rfl rfl (Nat.le_of_ble_eq_true rfl) dX4_judgeByReading_2 ⟨Nat.le_of_ble_eq_true rfl, Nat.le_of_ble_eq_true rfl⟩ (fun E hE => q_out F ht (Nat.le_of_ble_eq_true rfl) (Nat.le_of_ble_eq_true rfl) ⟨rfl, (by rw [hE.1]; rfl), hE.2⟩) (fun k2 => ?_)
  refine q_iload_n F 3 dX4_judgeByReading_5 rfl rfl ?_
  refine q_callSX_v F (c_X4_requireKey hst) gX4_judgeByReading_X4_requireKey rfl hd_X4_requireKey ⟨Nat.le_of_ble_eq_true rfl, Nat.le_of_ble_eq_true rfl⟩ rfl rfl (Nat.le_of_ble_eq_true rfl) dX4_judgeByReading_6 ⟨Nat.le_of_ble_eq_true rfl, Nat.le_of_ble_eq_true rfl⟩ (fun E hE => q_out F ht (Nat.le_of_ble_eq_true rfl) (Nat.le_of_ble_eq_true rfl) ⟨rfl, (by rw [hE.1, Bool.and_false]), hE.2⟩) (fun k6 => ?_)
  refine q_aload_n F 0 dX4_judgeByReading_9 rfl rfl ?_
  refine q_iload_n F 1 dX4_judgeByReading_10 rfl rfl ?_
  refine q_iload_n F 2 dX4_judgeByReading_11 rfl rfl ?_
  refine q_iload_n F 3 dX4_judgeByReading_12 rfl rfl ?_
  refine q_iconst F dX4_judgeByReading_13 hc_m1 ?_
  refine q_callV_i F (c_X4_judgementByLines hG hC) gX4_judgeByReading_X4_judgementByLines rfl hd_X4_judgementByLines ⟨Nat.le_of_ble_eq_true rfl, Nat.le_of_ble_eq_true rfl⟩ hG.1 rfl rfl rfl (Nat.le_of_ble_eq_true rfl) dX4_judgeByReading_14 ⟨Nat.le_of_ble_eq_true rfl, Nat.le_of_ble_eq_true rfl⟩ ?_
  exact q_x (q_reti F hr rfl dX4_judgeByReading_17 (Nat.le_of_ble_eq_true rfl) (Nat.le_of_ble_eq_true rfl) ⟨rfl, rfl, by rw [k2, k6]; rfl⟩)

set_option maxHeartbeats 4000000 in
set_option maxRecDepth 100000 in
theorem c_X4_judge {l : Launch} {g : hG} {X : va_W} {S : hS} (hst : l.stackTraces = false) {h bk ca sa : Nat} {ad pa : Nat → Nat} {sc : Nat → Int32} {M : Nat → Nat → Int32} {n nc ns : Nat} (hG : cG S h bk ca sa ad pa) (hC : cC S h ca sa ad pa sc M n nc ns) {name port key ct : Int32} (hi : ¬ ct = -1) : hMetX l yX4_judge wsX4_judge rm_X4_judge g X S [.ref h, .int name, .int port, .int key, .int ct] (pXI (jo (sc 1) M n ns name port key ct.toNatClampNeg) S (inL ct nc = true ∧ (okNP name port && okK key) = true)) (pE S (pe2 (inL ct nc) (okNP name port && okK key) xIO xIA)) := by
  refine h_startX (maxL := 6) (ret := (some .int)) (by decide) rfl (Nat.le_of_ble_eq_true rfl) ?_
  intro p e s m args below meth c F hr ht
  refine q_aload_n F 0 dX4_judge_0 rfl rfl ?_
  refine q_iload F dX4_judge_1 rfl ?_
  refine q_callVX_a F (c_X4_certificateAt hst hG hC hi) gX4_judge_X4_certificateAt rfl hd_X4_certificateAt ⟨Nat.le_of_ble_eq_true rfl, Nat.le_of_ble_eq_true rfl⟩ hG.1 rfl rfl rfl (Nat.le_of_ble_eq_true rfl) dX4_judge_3 ⟨Nat.le_of_ble_eq_true rfl, Nat.le_of_ble_eq_true rfl⟩ (fun E hE => q_out F ht (Nat.le_of_ble_eq_true rfl) (Nat.le_of_ble_eq_true rfl) ⟨rfl, Or.inl hE⟩) (fun k3 => ?_)
  obtain ⟨ci, hci, rfl⟩ := inL_get k3 (by have := hC.2.2.1.2.2; omega)
  have hcl : (nI ci).toNatClampNeg = ci := nI_clamp (by have := hC.2.2.1.2.2; omega)
  obtain ⟨cr, hz, hR⟩ := hC.2.2.2.2.2.2.1 ci hci
  rw [hcl, hz]
  refine q_astore F dX4_judge_6 (by decide) rfl ?_
  refine q_iload_n F 1 dX4_judge_8 rfl rfl ?_
  refine q_iload_n F 2 dX4_judge_9 rfl rfl ?_
  refine q_callSX_v F (c_X4_requireNameAndPort hst) gX4_judge_X4_requireNameAndPort rfl hd_X4_requireNameAndPort ⟨Nat.le_of_ble_eq_true rfl, Nat.le_of_ble_eq_true rfl⟩ rfl rfl (Nat.le_of_ble_eq_true rfl) dX4_judge_10 ⟨Nat.le_of_ble_eq_true rfl, Nat.le_of_ble_eq_true rfl⟩ (fun E hE => q_out F ht (Nat.le_of_ble_eq_true rfl) (Nat.le_of_ble_eq_true rfl) ⟨rfl, Or.inr ⟨k3, by rw [hE.1]; rfl, hE.2⟩⟩) (fun k10 => ?_)
  refine q_iload_n F 3 dX4_judge_13 rfl rfl ?_
  refine q_callSX_v F (c_X4_requireKey hst) gX4_judge_X4_requireKey rfl hd_X4_requireKey ⟨Nat.le_of_ble_eq_true rfl, Nat.le_of_ble_eq_true rfl⟩ rfl rfl (Nat.le_of_ble_eq_true rfl) dX4_judge_14 ⟨Nat.le_of_ble_eq_true rfl, Nat.le_of_ble_eq_true rfl⟩ (fun E hE => q_out F ht (Nat.le_of_ble_eq_true rfl) (Nat.le_of_ble_eq_true rfl) ⟨rfl, Or.inr ⟨k3, by rw [hE.1, Bool.and_false], hE.2⟩⟩) (fun k14 => ?_)
  refine q_aload_n F 0 dX4_judge_17 rfl rfl ?_
  refine q_iload_n F 1 dX4_judge_18 rfl rfl ?_
  refine q_iload_n F 2 dX4_judge_19 rfl rfl ?_
  refine q_iload_n F 3 dX4_judge_20 rfl rfl ?_
  refine q_aload F dX4_judge_21 rfl ?_
  refine q_callV_i F (c_X4_judgementOf hG hC hR) gX4_judge_X4_judgementOf rfl hd_X4_judgementOf ⟨Nat.le_of_ble_eq_true rfl, Nat.le_of_ble_eq_true rfl⟩ hG.1 rfl rfl rfl (Nat.le_of_ble_eq_true rfl) dX4_judge_23 ⟨Nat.le_of_ble_eq_true rfl, Nat.le_of_ble_eq_true rfl⟩ ?_
  exact q_x (q_reti F hr rfl dX4_judge_26 (Nat.le_of_ble_eq_true rfl) (Nat.le_of_ble_eq_true rfl) ⟨rfl, rfl, k3, by rw [k10, k14]; rfl⟩)

set_option maxHeartbeats 4000000 in
set_option maxRecDepth 100000 in
theorem c_X4_judge_n {l : Launch} {g : hG} {X : va_W} {S : hS} (hst : l.stackTraces = false) {h bk ca sa : Nat} {ad pa : Nat → Nat} {sc : Nat → Int32} {M : Nat → Nat → Int32} {n nc ns : Nat} (hG : cG S h bk ca sa ad pa) (hC : cC S h ca sa ad pa sc M n nc ns) {name port key : Int32} : hMetX l yX4_judge wsX4_judge rm_X4_judge g X S [.ref h, .int name, .int port, .int key, .int (-1)] (pXI (jb (sc 1) M name port key (-1) n) S ((okNP name port && okK key) = true)) (pE S (pe1 (okNP name port && okK key) xIA)) := by
  refine h_startX (maxL := 6) (ret := (some .int)) (by decide) rfl (Nat.le_of_ble_eq_true rfl) ?_
  intro p e s m args below meth c F hr ht
  refine q_aload_n F 0 dX4_judge_0 rfl rfl ?_
  refine q_iload F dX4_judge_1 rfl ?_
  refine q_callVX_o F (c_X4_certificateAt_n) gX4_judge_X4_certificateAt rfl hd_X4_certificateAt ⟨Nat.le_of_ble_eq_true rfl, Nat.le_of_ble_eq_true rfl⟩ hG.1 rfl rfl rfl (Nat.le_of_ble_eq_true rfl) dX4_judge_3 ⟨Nat.le_of_ble_eq_true rfl, Nat.le_of_ble_eq_true rfl⟩ (fun E hE => hE.elim) (fun k3 => ?_)
  refine q_astoreN F dX4_judge_6 (by decide) rfl ?_
  refine q_iload_n F 1 dX4_judge_8 rfl rfl ?_
  refine q_iload_n F 2 dX4_judge_9 rfl rfl ?_
  refine q_callSX_v F (c_X4_requireNameAndPort hst) gX4_judge_X4_requireNameAndPort rfl hd_X4_requireNameAndPort ⟨Nat.le_of_ble_eq_true rfl, Nat.le_of_ble_eq_true rfl⟩ rfl rfl (Nat.le_of_ble_eq_true rfl) dX4_judge_10 ⟨Nat.le_of_ble_eq_true rfl, Nat.le_of_ble_eq_true rfl⟩ (fun E hE => q_out F ht (Nat.le_of_ble_eq_true rfl) (Nat.le_of_ble_eq_true rfl) ⟨rfl, (by rw [hE.1]; rfl), hE.2⟩) (fun k10 => ?_)
  refine q_iload_n F 3 dX4_judge_13 rfl rfl ?_
  refine q_callSX_v F (c_X4_requireKey hst) gX4_judge_X4_requireKey rfl hd_X4_requireKey ⟨Nat.le_of_ble_eq_true rfl, Nat.le_of_ble_eq_true rfl⟩ rfl rfl (Nat.le_of_ble_eq_true rfl) dX4_judge_14 ⟨Nat.le_of_ble_eq_true rfl, Nat.le_of_ble_eq_true rfl⟩ (fun E hE => q_out F ht (Nat.le_of_ble_eq_true rfl) (Nat.le_of_ble_eq_true rfl) ⟨rfl, (by rw [hE.1, Bool.and_false]), hE.2⟩) (fun k14 => ?_)
  refine q_aload_n F 0 dX4_judge_17 rfl rfl ?_
  refine q_iload_n F 1 dX4_judge_18 rfl rfl ?_
  refine q_iload_n F 2 dX4_judge_19 rfl rfl ?_
  refine q_iload_n F 3 dX4_judge_20 rfl rfl ?_
  refine q_aloadN F dX4_judge_21 rfl ?_
  refine q_callV_i F (c_X4_judgementOf_n hG hC) gX4_judge_X4_judgementOf rfl hd_X4_judgementOf ⟨Nat.le_of_ble_eq_true rfl, Nat.le_of_ble_eq_true rfl⟩ hG.1 rfl rfl rfl (Nat.le_of_ble_eq_true rfl) dX4_judge_23 ⟨Nat.le_of_ble_eq_true rfl, Nat.le_of_ble_eq_true rfl⟩ ?_
  exact q_x (q_reti F hr rfl dX4_judge_26 (Nat.le_of_ble_eq_true rfl) (Nat.le_of_ble_eq_true rfl) ⟨rfl, rfl, by rw [k10, k14]; rfl⟩)

set_option maxHeartbeats 4000000 in
set_option maxRecDepth 100000 in
theorem c_X4_day {l : Launch} {g : hG} {X : va_W} {S : hS} {h : Nat} (hO4 : isO S h 4) : hMet l yX4_day wsX4_day rm_X4_day g X S [.ref h] (pI (sF S 46 h) S) := by
  refine h_start (maxL := 1) (ret := (some .int)) (by decide) rfl (Nat.le_of_ble_eq_true rfl) ?_
  intro p e s m args below meth c F hr hinit
  refine q_aload_n F 0 dX4_day_0 rfl rfl ?_
  refine qg_X4_146 F hO4 dX4_day_1 ?_
  exact (q_reti F hr rfl dX4_day_4 (Nat.le_of_ble_eq_true rfl) (Nat.le_of_ble_eq_true rfl) ⟨rfl, rfl⟩)

set_option maxHeartbeats 4000000 in
set_option maxRecDepth 100000 in
theorem c_X4_lines {l : Launch} {g : hG} {X : va_W} {S : hS} {h : Nat} (hO4 : isO S h 4) : hMet l yX4_lines wsX4_lines rm_X4_lines g X S [.ref h] (pI (sF S 41 h) S) := by
  refine h_start (maxL := 1) (ret := (some .int)) (by decide) rfl (Nat.le_of_ble_eq_true rfl) ?_
  intro p e s m args below meth c F hr hinit
  refine q_aload_n F 0 dX4_lines_0 rfl rfl ?_
  refine qg_X4_47 F hO4 dX4_lines_1 ?_
  exact (q_reti F hr rfl dX4_lines_4 (Nat.le_of_ble_eq_true rfl) (Nat.le_of_ble_eq_true rfl) ⟨rfl, rfl⟩)

set_option maxHeartbeats 4000000 in
set_option maxRecDepth 100000 in
theorem c_X4_waiting {l : Launch} {g : hG} {X : va_W} {S : hS} {h : Nat} (hO4 : isO S h 4) : hMet l yX4_waiting wsX4_waiting rm_X4_waiting g X S [.ref h] (pI (sF S 51 h) S) := by
  refine h_start (maxL := 1) (ret := (some .int)) (by decide) rfl (Nat.le_of_ble_eq_true rfl) ?_
  intro p e s m args below meth c F hr hinit
  refine q_aload_n F 0 dX4_waiting_0 rfl rfl ?_
  refine qg_X4_31 F hO4 dX4_waiting_1 ?_
  exact (q_reti F hr rfl dX4_waiting_4 (Nat.le_of_ble_eq_true rfl) (Nat.le_of_ble_eq_true rfl) ⟨rfl, rfl⟩)

set_option maxHeartbeats 4000000 in
set_option maxRecDepth 100000 in
theorem c_X4_keyOf {l : Launch} {g : hG} {X : va_W} {S : hS} (hst : l.stackTraces = false) {h bk ca sa : Nat} {ad pa : Nat → Nat} {sc : Nat → Int32} {M : Nat → Nat → Int32} {n nc ns : Nat} (hG : cG S h bk ca sa ad pa) (hC : cC S h ca sa ad pa sc M n nc ns) {i : Int32} : hMetX l yX4_keyOf wsX4_keyOf rm_X4_keyOf g X S [.ref h, .int i] (pXI (1000 * M 6 i.toNatClampNeg + M 5 i.toNatClampNeg) S (inL i n = true)) (pE S (pe1 (inL i n) xIO)) := by
  refine h_startX (maxL := 3) (ret := (some .int)) (by decide) rfl (Nat.le_of_ble_eq_true rfl) ?_
  intro p e s m args below meth c F hr ht
  refine q_aload_n F 0 dX4_keyOf_0 rfl rfl ?_
  refine q_iload_n F 1 dX4_keyOf_1 rfl rfl ?_
  refine q_callVX_a F (c_X4_lineAt hst hG hC) gX4_keyOf_X4_lineAt rfl hd_X4_lineAt ⟨Nat.le_of_ble_eq_true rfl, Nat.le_of_ble_eq_true rfl⟩ hG.1 rfl rfl rfl (Nat.le_of_ble_eq_true rfl) dX4_keyOf_2 ⟨Nat.le_of_ble_eq_true rfl, Nat.le_of_ble_eq_true rfl⟩ (fun E hE => q_out F ht (Nat.le_of_ble_eq_true rfl) (Nat.le_of_ble_eq_true rfl) ⟨rfl, hE⟩) (fun k2 => ?_)
  have hn40 := hC.1.2.2
  obtain ⟨j, hj, rfl⟩ := inL_get k2 (by omega)
  have hcl : (nI j).toNatClampNeg = j := nI_clamp (by omega)
  have hi40 : j < 40 := by omega
  obtain ⟨pt, k, hL⟩ := hC.2.1 j hj
  rw [hcl]
  refine q_astore_n F 2 dX4_keyOf_5 rfl (by decide) rfl ?_
  refine q_sipush (v := 1000) F dX4_keyOf_6 (by decide) ?_
  refine q_aload_n F 2 dX4_keyOf_9 rfl rfl ?_
  refine qg_X4_155 F (hG.2.2.2.2.1 _ hi40).2.1 dX4_keyOf_10 ?_
  refine q_imul F dX4_keyOf_13 ?_
  refine q_aload_n F 2 dX4_keyOf_14 rfl rfl ?_
  refine qg_X4_65 F (hG.2.2.2.2.1 _ hi40).2.1 dX4_keyOf_15 ?_
  refine q_iadd F dX4_keyOf_18 ?_
  exact q_x (q_reti F hr rfl dX4_keyOf_19 (Nat.le_of_ble_eq_true rfl) (Nat.le_of_ble_eq_true rfl) ⟨by rw [← hL.1.1, ← hL.1.2.1], rfl, k2⟩)

set_option maxHeartbeats 4000000 in
set_option maxRecDepth 100000 in
theorem c_X4_seen {l : Launch} {g : hG} {X : va_W} {S : hS} (hst : l.stackTraces = false) {h bk ca sa : Nat} {ad pa : Nat → Nat} {sc : Nat → Int32} {M : Nat → Nat → Int32} {n nc ns : Nat} (hG : cG S h bk ca sa ad pa) (hC : cC S h ca sa ad pa sc M n nc ns) {i : Int32} : hMetX l yX4_seen wsX4_seen rm_X4_seen g X S [.ref h, .int i] (pXI (M 7 i.toNatClampNeg) S (inL i n = true)) (pE S (pe1 (inL i n) xIO)) := by
  refine h_startX (maxL := 2) (ret := (some .int)) (by decide) rfl (Nat.le_of_ble_eq_true rfl) ?_
  intro p e s m args below meth c F hr ht
  refine q_aload_n F 0 dX4_seen_0 rfl rfl ?_
  refine q_iload_n F 1 dX4_seen_1 rfl rfl ?_
  refine q_callVX_a F (c_X4_lineAt hst hG hC) gX4_seen_X4_lineAt rfl hd_X4_lineAt ⟨Nat.le_of_ble_eq_true rfl, Nat.le_of_ble_eq_true rfl⟩ hG.1 rfl rfl rfl (Nat.le_of_ble_eq_true rfl) dX4_seen_2 ⟨Nat.le_of_ble_eq_true rfl, Nat.le_of_ble_eq_true rfl⟩ (fun E hE => q_out F ht (Nat.le_of_ble_eq_true rfl) (Nat.le_of_ble_eq_true rfl) ⟨rfl, hE⟩) (fun k2 => ?_)
  have hn40 := hC.1.2.2
  obtain ⟨j, hj, rfl⟩ := inL_get k2 (by omega)
  have hcl : (nI j).toNatClampNeg = j := nI_clamp (by omega)
  have hi40 : j < 40 := by omega
  obtain ⟨pt, k, hL⟩ := hC.2.1 j hj
  rw [hcl]
  refine qg_X4_158 F (hG.2.2.2.2.1 _ hi40).2.1 dX4_seen_5 ?_
  exact q_x (q_reti F hr rfl dX4_seen_8 (Nat.le_of_ble_eq_true rfl) (Nat.le_of_ble_eq_true rfl) ⟨by rw [← hL.1.2.2.1], rfl, k2⟩)

set_option maxHeartbeats 4000000 in
set_option maxRecDepth 100000 in
theorem c_X4_end {l : Launch} {g : hG} {X : va_W} {S : hS} (hst : l.stackTraces = false) {h bk ca sa : Nat} {ad pa : Nat → Nat} {sc : Nat → Int32} {M : Nat → Nat → Int32} {n nc ns : Nat} (hG : cG S h bk ca sa ad pa) (hC : cC S h ca sa ad pa sc M n nc ns) {i : Int32} : hMetX l yX4_end wsX4_end rm_X4_end g X S [.ref h, .int i] (pXI (M 8 i.toNatClampNeg) S (inL i n = true)) (pE S (pe1 (inL i n) xIO)) := by
  refine h_startX (maxL := 2) (ret := (some .int)) (by decide) rfl (Nat.le_of_ble_eq_true rfl) ?_
  intro p e s m args below meth c F hr ht
  refine q_aload_n F 0 dX4_end_0 rfl rfl ?_
  refine q_iload_n F 1 dX4_end_1 rfl rfl ?_
  refine q_callVX_a F (c_X4_lineAt hst hG hC) gX4_end_X4_lineAt rfl hd_X4_lineAt ⟨Nat.le_of_ble_eq_true rfl, Nat.le_of_ble_eq_true rfl⟩ hG.1 rfl rfl rfl (Nat.le_of_ble_eq_true rfl) dX4_end_2 ⟨Nat.le_of_ble_eq_true rfl, Nat.le_of_ble_eq_true rfl⟩ (fun E hE => q_out F ht (Nat.le_of_ble_eq_true rfl) (Nat.le_of_ble_eq_true rfl) ⟨rfl, hE⟩) (fun k2 => ?_)
  have hn40 := hC.1.2.2
  obtain ⟨j, hj, rfl⟩ := inL_get k2 (by omega)
  have hcl : (nI j).toNatClampNeg = j := nI_clamp (by omega)
  have hi40 : j < 40 := by omega
  obtain ⟨pt, k, hL⟩ := hC.2.1 j hj
  rw [hcl]
  refine qg_X4_161 F (hG.2.2.2.2.1 _ hi40).2.1 dX4_end_5 ?_
  exact q_x (q_reti F hr rfl dX4_end_8 (Nat.le_of_ble_eq_true rfl) (Nat.le_of_ble_eq_true rfl) ⟨by rw [← hL.1.2.2.2], rfl, k2⟩)

set_option maxHeartbeats 4000000 in
set_option maxRecDepth 100000 in
theorem c_X4_matches {l : Launch} {g : hG} {X : va_W} {S : hS} (hst : l.stackTraces = false) {h bk ca sa : Nat} {ad pa : Nat → Nat} {sc : Nat → Int32} {M : Nat → Nat → Int32} {n nc ns : Nat} (hG : cG S h bk ca sa ad pa) (hC : cC S h ca sa ad pa sc M n nc ns) {i name port : Int32} : hMetX l yX4_matches wsX4_matches rm_X4_matches g X S [.ref h, .int i, .int name, .int port] (pXI (b2 (mt M i.toNatClampNeg name port)) S (inL i n = true ∧ okNP name port = true)) (pE S (pe2 (inL i n) (okNP name port) xIO xIA)) := by
  refine h_startX (maxL := 5) (ret := (some .boolean)) (by decide) rfl (Nat.le_of_ble_eq_true rfl) ?_
  intro p e s m args below meth c F hr ht
  refine q_aload_n F 0 dX4_matches_0 rfl rfl ?_
  refine q_iload_n F 1 dX4_matches_1 rfl rfl ?_
  refine q_callVX_a F (c_X4_lineAt hst hG hC) gX4_matches_X4_lineAt rfl hd_X4_lineAt ⟨Nat.le_of_ble_eq_true rfl, Nat.le_of_ble_eq_true rfl⟩ hG.1 rfl rfl rfl (Nat.le_of_ble_eq_true rfl) dX4_matches_2 ⟨Nat.le_of_ble_eq_true rfl, Nat.le_of_ble_eq_true rfl⟩ (fun E hE => q_out F ht (Nat.le_of_ble_eq_true rfl) (Nat.le_of_ble_eq_true rfl) ⟨rfl, Or.inl hE⟩) (fun k2 => ?_)
  have hn40 := hC.1.2.2
  obtain ⟨j, hj, rfl⟩ := inL_get k2 (by omega)
  have hcl : (nI j).toNatClampNeg = j := nI_clamp (by omega)
  have hi40 : j < 40 := by omega
  obtain ⟨pt, k, hL⟩ := hC.2.1 j hj
  rw [hcl]
  refine q_astore F dX4_matches_5 (by decide) rfl ?_
  refine q_iload_n F 2 dX4_matches_7 rfl rfl ?_
  refine q_iload_n F 3 dX4_matches_8 rfl rfl ?_
  refine q_callSX_v F (c_X4_requireNameAndPort hst) gX4_matches_X4_requireNameAndPort rfl hd_X4_requireNameAndPort ⟨Nat.le_of_ble_eq_true rfl, Nat.le_of_ble_eq_true rfl⟩ rfl rfl (Nat.le_of_ble_eq_true rfl) dX4_matches_9 ⟨Nat.le_of_ble_eq_true rfl, Nat.le_of_ble_eq_true rfl⟩ (fun E hE => q_out F ht (Nat.le_of_ble_eq_true rfl) (Nat.le_of_ble_eq_true rfl) ⟨rfl, Or.inr ⟨k2, hE⟩⟩) (fun k9 => ?_)
  refine q_aload F dX4_matches_12 rfl ?_
  refine q_iload_n F 2 dX4_matches_14 rfl rfl ?_
  refine q_iload_n F 3 dX4_matches_15 rfl rfl ?_
  refine q_callV_i F (c_X1_covers (hG.2.2.2.2.1 _ hi40).2 hL) gX4_matches_X1_covers rfl hd_X1_covers ⟨Nat.le_of_ble_eq_true rfl, Nat.le_of_ble_eq_true rfl⟩ (hG.2.2.2.2.1 _ hi40).2.1 rfl rfl rfl (Nat.le_of_ble_eq_true rfl) dX4_matches_16 ⟨Nat.le_of_ble_eq_true rfl, Nat.le_of_ble_eq_true rfl⟩ ?_
  exact q_x (q_reti F hr (b2_nar _) dX4_matches_19 (Nat.le_of_ble_eq_true rfl) (Nat.le_of_ble_eq_true rfl) ⟨rfl, rfl, k2, k9⟩)

set_option maxHeartbeats 4000000 in
set_option maxRecDepth 100000 in
theorem c_X4_find {l : Launch} {g : hG} {X : va_W} {S : hS} (hst : l.stackTraces = false) {h bk ca sa : Nat} {ad pa : Nat → Nat} {sc : Nat → Int32} {M : Nat → Nat → Int32} {n nc ns : Nat} (hG : cG S h bk ca sa ad pa) (hC : cC S h ca sa ad pa sc M n nc ns) {name port : Int32} : hMetX l yX4_find wsX4_find rm_X4_find g X S [.ref h, .int name, .int port] (pXI (fd (fun i => mt M i name port) n n) S (okNP name port = true)) (pE S (pe1 (okNP name port) xIA)) := by
  refine h_startX (maxL := 4) (ret := (some .int)) (by decide) rfl (Nat.le_of_ble_eq_true rfl) ?_
  intro p e s m args below meth c F hr ht
  have hn40 := hC.1.2.2
  refine q_iload_n F 1 dX4_find_0 rfl rfl ?_
  refine q_iload_n F 2 dX4_find_1 rfl rfl ?_
  refine q_callSX_v F (c_X4_requireNameAndPort hst) gX4_find_X4_requireNameAndPort rfl hd_X4_requireNameAndPort ⟨Nat.le_of_ble_eq_true rfl, Nat.le_of_ble_eq_true rfl⟩ rfl rfl (Nat.le_of_ble_eq_true rfl) dX4_find_2 ⟨Nat.le_of_ble_eq_true rfl, Nat.le_of_ble_eq_true rfl⟩ (fun E hE => q_out F ht (Nat.le_of_ble_eq_true rfl) (Nat.le_of_ble_eq_true rfl) ⟨rfl, hE⟩) (fun k2 => ?_)
  refine q_iconst F dX4_find_5 hc_0 ?_
  refine q_istore_n F 3 dX4_find_6 rfl (by decide) rfl ?_
  have L : ∀ (r j : Nat), j + r = n → fd (fun i => mt M i name port) n r = fd (fun i => mt M i name port) n n → V p l e rm_X4_find s m args below meth c 4 g X (vx_MQ below (hQ g X (pXI (fd (fun i => mt M i name port) n n) S (okNP name port = true))) (hXC g X (pE S (pe1 (okNP name port) xIA))) args s rm_X4_find.cells rm_X4_find.slots (hA g)) S 2 12 [(0, .ref h), (1, .int name), (2, .int port), (3, .int (nI j))] 7 [] := by
    intro r
    induction r with
    | zero =>
      intro j hjr hD
      have hjn : j = n := by omega
      subst hjn
      refine q_iload_n F 3 dX4_find_7 rfl rfl ?_
      refine q_aload_n F 0 dX4_find_8 rfl rfl ?_
      refine qg_X4_47 F hG.1 dX4_find_9 ?_
      refine q_icmp_ge F 37 dX4_find_12 rfl (fun c12 => ?_) (fun c12 => ?_)
      · refine q_iconst F dX4_find_37 hc_m1 ?_
        exact q_x (q_reti F hr rfl dX4_find_38 (Nat.le_of_ble_eq_true rfl) (Nat.le_of_ble_eq_true rfl) ⟨by rw [← hD]; rfl, rfl, k2⟩)
      exact absurd c12 (gT hC.1.1 rfl (Nat.le_refl _) (by omega))
    | succ r ih =>
      intro j hjr hD
      have hj : j < n := by omega
      have hi40 : j < 40 := Nat.lt_of_lt_of_le hj hC.1.2.2
      obtain ⟨pt, k, hL⟩ := hC.2.1 j hj
      refine q_iload_n F 3 dX4_find_7 rfl rfl ?_
      refine q_aload_n F 0 dX4_find_8 rfl rfl ?_
      refine qg_X4_47 F hG.1 dX4_find_9 ?_
      refine q_icmp_ge F 37 dX4_find_12 rfl (fun c12 => ?_) (fun c12 => ?_)
      · exact absurd c12 (gF hC.1.1 rfl hj (by omega))
      refine q_aload_n F 0 dX4_find_15 rfl rfl ?_
      refine qg_X4_11 F hG.2.1.1 hG.1 dX4_find_16 ?_
      refine q_iload_n F 3 dX4_find_19 rfl rfl ?_
      refine q_aald_l F hG.2.1.2.1 hG.2.1.2.2 rfl hi40 (by decide) (hG.2.2.2.2.1 _ hi40).1 dX4_find_20 ?_
      refine q_iload_n F 1 dX4_find_21 rfl rfl ?_
      refine q_iload_n F 2 dX4_find_22 rfl rfl ?_
      refine q_callV_i F (c_X1_covers (hG.2.2.2.2.1 _ hi40).2 hL) gX4_find_X1_covers rfl hd_X1_covers ⟨Nat.le_of_ble_eq_true rfl, Nat.le_of_ble_eq_true rfl⟩ (hG.2.2.2.2.1 _ hi40).2.1 rfl rfl rfl (Nat.le_of_ble_eq_true rfl) dX4_find_23 ⟨Nat.le_of_ble_eq_true rfl, Nat.le_of_ble_eq_true rfl⟩ ?_
      refine q_if_eq F 31 dX4_find_26 rfl (fun c26 => ?_) (fun c26 => ?_)
      · refine q_iinc F (nI (j + 1)) dX4_find_31 rfl (nI_inc j) (by decide) rfl ?_
        refine q_goto F 7 dX4_find_34 rfl ?_
        exact q_to (ih (j + 1) (by omega) (by rw [← hD]; exact (fd_s hjr (b2_0.mp c26)).symm)) ⟨rfl, rfl, rfl, rfl, trivial⟩
      refine q_iload_n F 3 dX4_find_29 rfl rfl ?_
      exact q_x (q_reti F hr rfl dX4_find_30 (Nat.le_of_ble_eq_true rfl) (Nat.le_of_ble_eq_true rfl) ⟨by rw [← hD, fd_t hjr (b2_n0 c26)], rfl, k2⟩)
  exact q_to (L n 0 (by omega) rfl) ⟨rfl, rfl, rfl, rfl, trivial⟩

set_option maxHeartbeats 4000000 in
set_option maxRecDepth 100000 in
theorem c_X4_linesOf {l : Launch} {g : hG} {X : va_W} {S : hS} (hst : l.stackTraces = false) {h bk ca sa : Nat} {ad pa : Nat → Nat} {sc : Nat → Int32} {M : Nat → Nat → Int32} {n nc ns : Nat} (hG : cG S h bk ca sa ad pa) (hC : cC S h ca sa ad pa sc M n nc ns) {key : Int32} : hMetX l yX4_linesOf wsX4_linesOf rm_X4_linesOf g X S [.ref h, .int key] (pXL (lo (fun i => decide (M 5 i = key)) n) S (okK key = true)) (pE S (pe1 (okK key) xIA)) := by
  refine h_startX (maxL := 5) (ret := (some .long)) (by decide) rfl (Nat.le_of_ble_eq_true rfl) ?_
  intro p e s m args below meth c F hr ht
  have hn40 := hC.1.2.2
  refine q_iload_n F 1 dX4_linesOf_0 rfl rfl ?_
  refine q_callSX_v F (c_X4_requireKey hst) gX4_linesOf_X4_requireKey rfl hd_X4_requireKey ⟨Nat.le_of_ble_eq_true rfl, Nat.le_of_ble_eq_true rfl⟩ rfl rfl (Nat.le_of_ble_eq_true rfl) dX4_linesOf_1 ⟨Nat.le_of_ble_eq_true rfl, Nat.le_of_ble_eq_true rfl⟩ (fun E hE => q_out F ht (Nat.le_of_ble_eq_true rfl) (Nat.le_of_ble_eq_true rfl) ⟨rfl, hE⟩) (fun k1 => ?_)
  refine q_lconst (v := 0) F dX4_linesOf_4 (by decide) ?_
  refine q_lstore_n F 2 dX4_linesOf_5 rfl (by decide) rfl ?_
  refine q_iconst F dX4_linesOf_6 hc_0 ?_
  refine q_istore F dX4_linesOf_7 (by decide) rfl ?_
  have L : ∀ (r j : Nat), j + r = n → V p l e rm_X4_linesOf s m args below meth c 5 g X (vx_MQ below (hQ g X (pXL (lo (fun i => decide (M 5 i = key)) n) S (okK key = true))) (hXC g X (pE S (pe1 (okK key) xIA))) args s rm_X4_linesOf.cells rm_X4_linesOf.slots (hA g)) S 1 6 [(0, .ref h), (1, .int key), (2, .long (lo (fun i => decide (M 5 i = key)) j)), (4, .int (nI j))] 9 [] := by
    intro r
    induction r with
    | zero =>
      intro j hjr
      have hjn : j = n := by omega
      subst hjn
      refine q_iload F dX4_linesOf_9 rfl ?_
      refine q_aload_n F 0 dX4_linesOf_11 rfl rfl ?_
      refine qg_X4_47 F hG.1 dX4_linesOf_12 ?_
      refine q_icmp_ge F 45 dX4_linesOf_15 rfl (fun c15 => ?_) (fun c15 => ?_)
      · refine q_lload_n F 2 dX4_linesOf_45 rfl rfl ?_
        exact q_x (q_retl F hr dX4_linesOf_46 (Nat.le_of_ble_eq_true rfl) (Nat.le_of_ble_eq_true rfl) ⟨rfl, rfl, k1⟩)
      exact absurd c15 (gT hC.1.1 rfl (Nat.le_refl _) (by omega))
    | succ r ih =>
      intro j hjr
      have hj : j < n := by omega
      have hi40 : j < 40 := Nat.lt_of_lt_of_le hj hC.1.2.2
      obtain ⟨pt, k, hL⟩ := hC.2.1 j hj
      refine q_iload F dX4_linesOf_9 rfl ?_
      refine q_aload_n F 0 dX4_linesOf_11 rfl rfl ?_
      refine qg_X4_47 F hG.1 dX4_linesOf_12 ?_
      refine q_icmp_ge F 45 dX4_linesOf_15 rfl (fun c15 => ?_) (fun c15 => ?_)
      · exact absurd c15 (gF hC.1.1 rfl hj (by omega))
      refine q_aload_n F 0 dX4_linesOf_18 rfl rfl ?_
      refine qg_X4_11 F hG.2.1.1 hG.1 dX4_linesOf_19 ?_
      refine q_iload F dX4_linesOf_22 rfl ?_
      refine q_aald_l F hG.2.1.2.1 hG.2.1.2.2 rfl hi40 (by decide) (hG.2.2.2.2.1 _ hi40).1 dX4_linesOf_24 ?_
      refine qg_X4_65 F (hG.2.2.2.2.1 _ hi40).2.1 dX4_linesOf_25 ?_
      refine q_iload_n F 1 dX4_linesOf_28 rfl rfl ?_
      refine q_icmp_ne F 39 dX4_linesOf_29 rfl (fun c29 => ?_) (fun c29 => ?_)
      · refine q_iinc F (nI (j + 1)) dX4_linesOf_39 rfl (nI_inc j) (by decide) rfl ?_
        refine q_goto F 9 dX4_linesOf_42 rfl ?_
        exact q_to (ih (j + 1) (by omega)) ⟨rfl, rfl, congrArg (fun z => some (Value.long z)) (by rw [hL.1.2.1] at c29; first | exact (lo_s (f := (fun i => decide (M 5 i = key))) (decide_eq_false c29)).symm | exact (lo_t (f := (fun i => decide (M 5 i = key))) (decide_eq_true c29)).symm), rfl, trivial⟩
      refine q_lload_n F 2 dX4_linesOf_32 rfl rfl ?_
      refine q_lconst (v := 1) F dX4_linesOf_33 (by decide) ?_
      refine q_iload F dX4_linesOf_34 rfl ?_
      refine q_lshl F dX4_linesOf_36 ?_
      refine q_lor F dX4_linesOf_37 ?_
      refine q_lstore_n F 2 dX4_linesOf_38 rfl (by decide) rfl ?_
      refine q_iinc F (nI (j + 1)) dX4_linesOf_39 rfl (nI_inc j) (by decide) rfl ?_
      refine q_goto F 9 dX4_linesOf_42 rfl ?_
      exact q_to (ih (j + 1) (by omega)) ⟨rfl, rfl, congrArg (fun z => some (Value.long z)) (by rw [hL.1.2.1] at c29; first | exact (lo_s (f := (fun i => decide (M 5 i = key))) (decide_eq_false c29)).symm | exact (lo_t (f := (fun i => decide (M 5 i = key))) (decide_eq_true c29)).symm), rfl, trivial⟩
  exact q_to (L n 0 (by omega)) ⟨rfl, rfl, rfl, rfl, trivial⟩
end
section
/-! the same rows of the pool, for simp (their proofs are no rfl to it) -/
theorem tL_uF (S : hS) (k a : Nat) (v : Int32) : sL (uF S k a v) = sL S := Eq.trans rfl (sL_uF _ _ _ _)
theorem tK_uF (S : hS) (k a : Nat) (v : Int32) : sK (uF S k a v) = sK S := Eq.trans rfl (sK_uF _ _ _ _)
theorem tF_uF (S : hS) (k a : Nat) (v : Int32) (x b : Nat) : sF (uF S k a v) x b = if x = k ∧ b = a then v else sF S x b := Eq.trans rfl (sF_uF _ _ _ _ _ _)
theorem tR_uF (S : hS) (k a : Nat) (v : Int32) : sR (uF S k a v) = sR S := Eq.trans rfl (sR_uF _ _ _ _)
theorem tN_uF (S : hS) (k a : Nat) (v : Int32) : sN (uF S k a v) = sN S := Eq.trans rfl (sN_uF _ _ _ _)
theorem tA_uF (S : hS) (k a : Nat) (v : Int32) : sA (uF S k a v) = sA S := Eq.trans rfl (sA_uF _ _ _ _)
theorem tB_uF (S : hS) (k a : Nat) (v : Int32) : sB (uF S k a v) = sB S := Eq.trans rfl (sB_uF _ _ _ _)
theorem tL_uR (S : hS) (k a : Nat) (v : Option Nat) : sL (uR S k a v) = sL S := Eq.trans rfl (sL_uR _ _ _ _)
theorem tK_uR (S : hS) (k a : Nat) (v : Option Nat) : sK (uR S k a v) = sK S := Eq.trans rfl (sK_uR _ _ _ _)
theorem tF_uR (S : hS) (k a : Nat) (v : Option Nat) : sF (uR S k a v) = sF S := Eq.trans rfl (sF_uR _ _ _ _)
theorem tR_uR (S : hS) (k a : Nat) (v : Option Nat) (x b : Nat) : sR (uR S k a v) x b = if x = k ∧ b = a then v else sR S x b := Eq.trans rfl (sR_uR _ _ _ _ _ _)
theorem tN_uR (S : hS) (k a : Nat) (v : Option Nat) : sN (uR S k a v) = sN S := Eq.trans rfl (sN_uR _ _ _ _)
theorem tA_uR (S : hS) (k a : Nat) (v : Option Nat) : sA (uR S k a v) = sA S := Eq.trans rfl (sA_uR _ _ _ _)
theorem tB_uR (S : hS) (k a : Nat) (v : Option Nat) : sB (uR S k a v) = sB S := Eq.trans rfl (sB_uR _ _ _ _)
theorem tL_uA (S : hS) (k a : Nat) (v : Int32) : sL (uA S k a v) = sL S := Eq.trans rfl (sL_uA _ _ _ _)
theorem tK_uA (S : hS) (k a : Nat) (v : Int32) : sK (uA S k a v) = sK S := Eq.trans rfl (sK_uA _ _ _ _)
theorem tF_uA (S : hS) (k a : Nat) (v : Int32) : sF (uA S k a v) = sF S := Eq.trans rfl (sF_uA _ _ _ _)
theorem tR_uA (S : hS) (k a : Nat) (v : Int32) : sR (uA S k a v) = sR S := Eq.trans rfl (sR_uA _ _ _ _)
theorem tN_uA (S : hS) (k a : Nat) (v : Int32) : sN (uA S k a v) = sN S := Eq.trans rfl (sN_uA _ _ _ _)
theorem tA_uA (S : hS) (k a : Nat) (v : Int32) (x b : Nat) : sA (uA S k a v) x b = if x = k ∧ b = a then v else sA S x b := Eq.trans rfl (sA_uA _ _ _ _ _ _)
theorem tB_uA (S : hS) (k a : Nat) (v : Int32) : sB (uA S k a v) = sB S := Eq.trans rfl (sB_uA _ _ _ _)
theorem tL_uB (S : hS) (k a : Nat) (v : Option Nat) : sL (uB S k a v) = sL S := Eq.trans rfl (sL_uB _ _ _ _)
theorem tK_uB (S : hS) (k a : Nat) (v : Option Nat) : sK (uB S k a v) = sK S := Eq.trans rfl (sK_uB _ _ _ _)
theorem tF_uB (S : hS) (k a : Nat) (v : Option Nat) : sF (uB S k a v) = sF S := Eq.trans rfl (sF_uB _ _ _ _)
theorem tR_uB (S : hS) (k a : Nat) (v : Option Nat) : sR (uB S k a v) = sR S := Eq.trans rfl (sR_uB _ _ _ _)
theorem tN_uB (S : hS) (k a : Nat) (v : Option Nat) : sN (uB S k a v) = sN S := Eq.trans rfl (sN_uB _ _ _ _)
theorem tA_uB (S : hS) (k a : Nat) (v : Option Nat) : sA (uB S k a v) = sA S := Eq.trans rfl (sA_uB _ _ _ _)
theorem tB_uB (S : hS) (k a : Nat) (v : Option Nat) (x b : Nat) : sB (uB S k a v) x b = if x = k ∧ b = a then v else sB S x b := Eq.trans rfl (sB_uB _ _ _ _ _ _)
theorem tL_nO (S : hS) (k q : Nat) : sL (nO S k q) = sL S ++ [q] := Eq.trans rfl (sL_nO _ _ _)
theorem tK_nO (S : hS) (k q : Nat) (b : Nat) : sK (nO S k q) b = if b = q then k else sK S b := Eq.trans rfl (sK_nO _ _ _ _)
theorem tF_nO (S : hS) (k q : Nat) (x b : Nat) : sF (nO S k q) x b = if b = q then 0 else sF S x b := Eq.trans rfl (sF_nO _ _ _ _ _)
theorem tR_nO (S : hS) (k q : Nat) (x b : Nat) : sR (nO S k q) x b = if b = q then none else sR S x b := Eq.trans rfl (sR_nO _ _ _ _ _)
theorem tN_nO (S : hS) (k q : Nat) : sN (nO S k q) = sN S := Eq.trans rfl (sN_nO _ _ _)
theorem tA_nO (S : hS) (k q : Nat) : sA (nO S k q) = sA S := Eq.trans rfl (sA_nO _ _ _)
theorem tB_nO (S : hS) (k q : Nat) : sB (nO S k q) = sB S := Eq.trans rfl (sB_nO _ _ _)
theorem tL_nA (S : hS) (k q n : Nat) : sL (nA S k q n) = sL S ++ [q] := Eq.trans rfl (sL_nA _ _ _ _)
theorem tK_nA (S : hS) (k q n : Nat) (b : Nat) : sK (nA S k q n) b = if b = q then k else sK S b := Eq.trans rfl (sK_nA _ _ _ _ _)
theorem tF_nA (S : hS) (k q n : Nat) : sF (nA S k q n) = sF S := Eq.trans rfl (sF_nA _ _ _ _)
theorem tR_nA (S : hS) (k q n : Nat) : sR (nA S k q n) = sR S := Eq.trans rfl (sR_nA _ _ _ _)
theorem tN_nA (S : hS) (k q n : Nat) (b : Nat) : sN (nA S k q n) b = if b = q then n else sN S b := Eq.trans rfl (sN_nA _ _ _ _ _)
theorem tA_nA (S : hS) (k q n : Nat) (b j : Nat) : sA (nA S k q n) b j = if b = q then 0 else sA S b j := Eq.trans rfl (sA_nA _ _ _ _ _ _)
theorem tB_nA (S : hS) (k q n : Nat) (b j : Nat) : sB (nA S k q n) b j = if b = q then none else sB S b j := Eq.trans rfl (sB_nA _ _ _ _ _ _)
theorem u2_at' {α : Type} (f : Nat → Nat → α) (i j : Nat) (v : α) (x y : Nat) : u2 f i j v x y = if x = i ∧ y = j then v else f x y := Eq.trans rfl (u2_at f i j v x y)
/-! a fact of the pool behind a step -/
theorem o_uF {S : hS} {k a b t : Nat} {v : Int32} (h : isO S b t) : isO (uF S k a v) b t := h
theorem n_uF {S : hS} {k a b N : Nat} {v : Int32} (h : sN S b = N) : sN (uF S k a v) b = N := h
theorem r_uF {S : hS} {k a x b : Nat} {v : Int32} {r : Option Nat} (h : sR S x b = r) : sR (uF S k a v) x b = r := h
theorem b_uF {S : hS} {k a x b : Nat} {v : Int32} {r : Option Nat} (h : sB S x b = r) : sB (uF S k a v) x b = r := h
theorem o_uR {S : hS} {k a b t : Nat} {v : Option Nat} (h : isO S b t) : isO (uR S k a v) b t := h
theorem n_uR {S : hS} {k a b N : Nat} {v : Option Nat} (h : sN S b = N) : sN (uR S k a v) b = N := h
theorem b_uR {S : hS} {k a x b : Nat} {v : Option Nat} {r : Option Nat} (h : sB S x b = r) : sB (uR S k a v) x b = r := h
theorem o_uB {S : hS} {k a b t : Nat} {v : Option Nat} (h : isO S b t) : isO (uB S k a v) b t := h
theorem n_uB {S : hS} {k a b N : Nat} {v : Option Nat} (h : sN S b = N) : sN (uB S k a v) b = N := h
theorem r_uB {S : hS} {k a x b : Nat} {v : Option Nat} {r : Option Nat} (h : sR S x b = r) : sR (uB S k a v) x b = r := h
theorem o_uA {S : hS} {k a b t : Nat} {v : Int32} (h : isO S b t) : isO (uA S k a v) b t := h
theorem n_uA {S : hS} {k a b N : Nat} {v : Int32} (h : sN S b = N) : sN (uA S k a v) b = N := h
theorem r_uA {S : hS} {k a x b : Nat} {v : Int32} {r : Option Nat} (h : sR S x b = r) : sR (uA S k a v) x b = r := h
theorem b_uA {S : hS} {k a x b : Nat} {v : Int32} {r : Option Nat} (h : sB S x b = r) : sB (uA S k a v) x b = r := h
theorem n_nO {S : hS} {k q b N : Nat} (h : sN S b = N) : sN (nO S k q) b = N := h
theorem b_nO {S : hS} {k q x b : Nat} {r : Option Nat} (h : sB S x b = r) : sB (nO S k q) x b = r := h
theorem r_nA {S : hS} {k q n x b : Nat} {r : Option Nat} (h : sR S x b = r) : sR (nA S k q n) x b = r := h
theorem sN_nA_self (S : hS) (k q n : Nat) : sN (nA S k q n) q = n := va_up_self _ _ _
/-! WHAT THE CLASS'S WRITERS DO, to the pool and to the state -/
def beginS (S : hS) (a : Nat) (mk key day : Int32) : hS := uF (uF (uF (uF (uF (uF S 10 a mk) 11 a key) 12 a day) 13 a (-1)) 15 a 0) 16 a 0
def appS (S : hS) (h a n : Nat) (mk key day : Int32) : hS := beginS (uF S 41 h (nI (n + 1))) a mk key day
def hashS (S : hS) (a : Nat) (name port salt : Int32) : hS := uF (uF (uF (uF S 16 a 1) 17 a (hsh name salt)) 18 a salt) 19 a port
def patI (S : hS) (q : Nat) (name places port den : Int32) : hS := uF (uF (uF (uF S 20 q name) 21 q places) 22 q port) 23 q den
def patT (S : hS) (pa q k : Nat) (name places port den : Int32) : hS := uB (patI (nO S 2 q) q name places port den) pa k (some q)
def patS (S : hS) (a pa q k : Nat) (name places port den : Int32) : hS := uF (patT S pa q k name places port den) 15 a (nI (k + 1))
def certI (S : hS) (q : Nat) (au key name places serial first last : Int32) : hS := uF (uF (uF (uF (uF (uF (uF S 0 q au) 1 q key) 2 q name) 3 q places) 4 q serial) 5 q first) 6 q last
def spanI (S : hS) (q : Nat) (au fr to : Int32) : hS := uF (uF (uF S 30 q au) 31 q fr) 32 q to
def scN (sc : Nat → Int32) (n : Nat) : Nat → Int32 := va_up sc 4 (nI n)
def aAdd (M : Nat → Nat → Int32) (n : Nat) (mk key day : Int32) : Nat → Nat → Int32 := u2 (u2 (u2 (u2 (u2 (u2 M 5 n key) 6 n mk) 7 n day) 8 n (-1)) 9 n (-1)) 12 n 0
def aHash (M : Nat → Nat → Int32) (i : Nat) (name port salt : Int32) : Nat → Nat → Int32 := u2 (u2 (u2 M 9 i salt) 10 i (hsh name salt)) 11 i port
def aPat (M : Nat → Nat → Int32) (i k : Nat) (name places port den : Int32) : Nat → Nat → Int32 := u2 (u2 (u2 (u2 (u2 M 13 (4 * i + k) name) 14 (4 * i + k) places) 15 (4 * i + k) port) 16 (4 * i + k) den) 12 i (nI (k + 1))
/-- a step of the class leaves the model's cells alone; a step of the model the class's -/
def clF (S S' : hS) : Prop := (∀ a k, isO S a k → isO S' a k) ∧ (∀ x a, 60 ≤ x → a ∈ sL S → sF S' x a = sF S x a ∧ sR S' x a = sR S x a) ∧ (∀ a, a ∈ sL S → sN S' a = sN S a ∧ sA S' a = sA S a)
def mdF (S S' : hS) : Prop := (∀ a k, isO S a k → isO S' a k) ∧ (∀ x a, x < 60 → sF S' x a = sF S x a ∧ sR S' x a = sR S x a) ∧ (∀ a, sN S' a = sN S a ∧ sB S' a = sB S a)
theorem clF.rf (S : hS) : clF S S := ⟨fun _ _ h => h, fun _ _ _ _ => ⟨rfl, rfl⟩, fun _ _ => ⟨rfl, rfl⟩⟩
theorem clF.tr {S T U : hS} (h1 : clF S T) (h2 : clF T U) (hL : ∀ a, a ∈ sL S → a ∈ sL T) : clF S U :=
  ⟨fun a k h => h2.1 a k (h1.1 a k h), fun x a hx ha => ⟨((h2.2.1 x a hx (hL a ha)).1).trans (h1.2.1 x a hx ha).1, ((h2.2.1 x a hx (hL a ha)).2).trans (h1.2.1 x a hx ha).2⟩, fun a ha => ⟨((h2.2.2 a (hL a ha)).1).trans (h1.2.2 a ha).1, ((h2.2.2 a (hL a ha)).2).trans (h1.2.2 a ha).2⟩⟩
theorem clF.mem {S T : hS} (h : clF S T) : ∀ a, a ∈ sL S → a ∈ sL T := fun a ha => (h.1 a (sK S a) ⟨ha, rfl⟩).1
theorem clF.trans {S T U : hS} (h1 : clF S T) (h2 : clF T U) : clF S U := h1.tr h2 h1.mem
theorem clF_uF (S : hS) {k : Nat} (a : Nat) (v : Int32) (hk : k < 60) : clF S (uF S k a v) :=
  ⟨fun _ _ h => h, fun x b hx _ => ⟨by rw [sF_uF, if_neg (fun z => by omega)], rfl⟩, fun _ _ => ⟨rfl, rfl⟩⟩
theorem clF_uB (S : hS) (a j : Nat) (v : Option Nat) : clF S (uB S a j v) := ⟨fun _ _ h => h, fun _ _ _ _ => ⟨rfl, rfl⟩, fun _ _ => ⟨rfl, rfl⟩⟩
theorem ne_of_mem {L : List Nat} {a q : Nat} (ha : a ∈ L) (hq : q ∉ L) : a ≠ q := fun z => hq (by rw [← z]; exact ha)
theorem clF_nO {S : hS} {k q : Nat} (hq : q ∉ sL S) : clF S (nO S k q) :=
  ⟨fun _ _ h => isO_nO' h hq, fun x b _ hb => ⟨by rw [sF_nO, if_neg (ne_of_mem hb hq)], by rw [sR_nO, if_neg (ne_of_mem hb hq)]⟩, fun _ _ => ⟨rfl, rfl⟩⟩
theorem clF_beginS (S : hS) (a : Nat) (mk key day : Int32) : clF S (beginS S a mk key day) := by
  unfold beginS
  exact (((((clF_uF _ _ _ (by decide)).trans (clF_uF _ _ _ (by decide))).trans (clF_uF _ _ _ (by decide))).trans (clF_uF _ _ _ (by decide))).trans (clF_uF _ _ _ (by decide))).trans (clF_uF _ _ _ (by decide))
theorem clF_appS (S : hS) (h a n : Nat) (mk key day : Int32) : clF S (appS S h a n mk key day) := (clF_uF _ _ _ (by decide)).trans (clF_beginS _ _ _ _ _)
theorem clF_hashS (S : hS) (a : Nat) (name port salt : Int32) : clF S (hashS S a name port salt) := by
  unfold hashS
  exact (((clF_uF _ _ _ (by decide)).trans (clF_uF _ _ _ (by decide))).trans (clF_uF _ _ _ (by decide))).trans (clF_uF _ _ _ (by decide))
theorem clF_patS {S : hS} {q : Nat} (a pa k : Nat) (name places port den : Int32) (hq : q ∉ sL S) : clF S (patS S a pa q k name places port den) := by
  unfold patS patT patI
  exact ((((((clF_nO hq).trans (clF_uF _ _ _ (by decide))).trans (clF_uF _ _ _ (by decide))).trans (clF_uF _ _ _ (by decide))).trans (clF_uF _ _ _ (by decide))).trans (clF_uB _ _ _ _)).trans (clF_uF _ _ _ (by decide))
/-! the cells -/
theorem cG_uF {S : hS} {h bk ca sa : Nat} {ad pa : Nat → Nat} (k a : Nat) (v : Int32) (hG : cG S h bk ca sa ad pa) : cG (uF S k a v) h bk ca sa ad pa := hG
theorem cG_nO {S : hS} {h bk ca sa : Nat} {ad pa : Nat → Nat} {k q : Nat} (hG : cG S h bk ca sa ad pa) (hq : q ∉ sL S) : cG (nO S k q) h bk ca sa ad pa := by
  obtain ⟨h1, ⟨h2, h3, h4⟩, ⟨h5, h6, h7⟩, ⟨h8, h9, h10⟩, h11, h12, h13⟩ := hG
  have hr : ∀ x, sR (nO S k q) x h = sR S x h := fun x => by rw [sR_nO, if_neg (ne_of_mem h1.1 hq)]
  refine ⟨isO_nO' h1 hq, ⟨by rw [hr]; exact h2, isO_nO' h3 hq, h4⟩, ⟨by rw [hr]; exact h5, isO_nO' h6 hq, h7⟩, ⟨by rw [hr]; exact h8, isO_nO' h9 hq, h10⟩, fun i hi => ?_, h12, h13⟩
  obtain ⟨g1, g2, g3, g4, g5⟩ := h11 i hi
  exact ⟨g1, isO_nO' g2 hq, by rw [sR_nO, if_neg (ne_of_mem g2.1 hq)]; exact g3, isO_nO' g4 hq, g5⟩
theorem cG_uB {S : hS} {h bk ca sa : Nat} {ad pa : Nat → Nat} {a : Nat} (j : Nat) (v : Option Nat) (hG : cG S h bk ca sa ad pa) (ha : sK S a ≠ 9) : cG (uB S a j v) h bk ca sa ad pa := by
  obtain ⟨h1, h2, h3, h4, h11, h12, h13⟩ := hG
  refine ⟨h1, h2, h3, h4, fun i hi => ⟨?_, (h11 i hi).2⟩, h12, h13⟩
  rw [sB_uB, if_neg (fun z => ha (by rw [← z.1]; exact h2.2.1.2))]
  exact (h11 i hi).1
/-! the contents -/
theorem cX_to {S S' : hS} {h ca sa : Nat} {sc sc' : Nat → Int32} {M M' : Nat → Nat → Int32} {nc ns : Nat} (h0 : cX S h ca sa sc M nc ns) (hO : ∀ a k, isO S a k → isO S' a k) (hF : ∀ x a, x < 7 ∨ (30 ≤ x ∧ x < 33) → a ∈ sL S → sF S' x a = sF S x a) (hH : ∀ x, 43 ≤ x → x < 52 → sF S' x h = sF S x h)
    (hB1 : ∀ i, i < 20 → sB S' ca i = sB S ca i) (hB2 : ∀ i, i < 20 → sB S' sa i = sB S sa i) (hs : ∀ x, x ≠ 4 → sc' x = sc x) (hM : ∀ f i, 18 ≤ f → M' f i = M f i) : cX S' h ca sa sc' M' nc ns := by
  obtain ⟨⟨a1, a2, a3⟩, ⟨b1, b2, b3⟩, ⟨c1, c2, c3, c4⟩, ⟨d1, d2⟩, e, f⟩ := h0
  refine ⟨⟨by rw [hH 43 (by decide) (by decide)]; exact a1, by rw [hs 17 (by decide)]; exact a2, a3⟩, ⟨by rw [hH 45 (by decide) (by decide)]; exact b1, by rw [hs 25 (by decide)]; exact b2, b3⟩, ⟨by rw [hH 46 (by decide) (by decide), hs 1 (by decide)]; exact c1, by rw [hH 47 (by decide) (by decide), hs 2 (by decide)]; exact c2, by rw [hH 48 (by decide) (by decide), hs 3 (by decide)]; exact c3, by rw [hs 3 (by decide)]; exact c4⟩, ⟨by rw [hH 51 (by decide) (by decide), hs 29 (by decide)]; exact d1, fun hz => ?_⟩, fun i hi => ?_, fun i hi => ?_⟩
  · rw [hs 29 (by decide)] at hz
    rw [hH 49 (by decide) (by decide), hH 50 (by decide) (by decide), hs 30 (by decide), hs 31 (by decide)]
    exact d2 hz
  · obtain ⟨a, g0, g1, g2, g3, g4, g5, g6, g7, g8⟩ := e i hi
    refine ⟨a, by rw [hB1 i (by omega)]; exact g0, hO a 0 g1, ?_⟩
    rw [hF 0 a (by omega) g1.1, hF 1 a (by omega) g1.1, hF 2 a (by omega) g1.1, hF 3 a (by omega) g1.1, hF 4 a (by omega) g1.1, hF 5 a (by omega) g1.1, hF 6 a (by omega) g1.1, hM 18 i (by decide), hM 19 i (by decide), hM 20 i (by decide), hM 21 i (by decide), hM 22 i (by decide), hM 23 i (by decide), hM 24 i (by decide)]
    exact ⟨g2, g3, g4, g5, g6, g7, g8⟩
  · obtain ⟨a, g0, g1, g2, g3, g4⟩ := f i hi
    refine ⟨a, by rw [hB2 i (by omega)]; exact g0, hO a 3 g1, ?_⟩
    rw [hF 30 a (by omega) g1.1, hF 31 a (by omega) g1.1, hF 32 a (by omega) g1.1, hM 26 i (by decide), hM 27 i (by decide), hM 28 i (by decide)]
    exact ⟨g2, g3, g4⟩
theorem cL_to {S S' : hS} {ad pa : Nat → Nat} {M M' : Nat → Nat → Int32} {n n' : Nat} (i0 : Nat) (h : cL S ad pa M n) (hlt : ∀ i, i < n' → i ≠ i0 → i < n)
    (hne : ∀ i, i < n' → i ≠ i0 → ∀ x, 10 ≤ x → x < 20 → sF S' x (ad i) = sF S x (ad i)) (hP : ∀ a, isO S a 2 → isO S' a 2 ∧ ∀ x, 20 ≤ x → x < 24 → sF S' x a = sF S x a)
    (hB : ∀ i, i < n' → i ≠ i0 → ∀ k, k < 4 → sB S' (pa (ad i)) k = sB S (pa (ad i)) k) (hM : ∀ i, i ≠ i0 → (∀ f, 5 ≤ f → f ≤ 12 → M' f i = M f i) ∧ ∀ f k, 13 ≤ f → f ≤ 16 → k < 4 → M' f (4 * i + k) = M f (4 * i + k))
    (h0 : i0 < n' → ∃ pt' k', lnR S' (ad i0) (pa (ad i0)) pt' M' i0 k') : cL S' ad pa M' n' := by
  intro i hi
  by_cases hii : i = i0
  · subst hii
    exact h0 hi
  · obtain ⟨pt, k, ⟨q1, q2, q3, q4⟩, ⟨r1, r2, r3⟩, u, v⟩ := h i (hlt i hi hii)
    obtain ⟨m1, m2⟩ := hM i hii
    have hf := hne i hi hii
    refine ⟨pt, k, ⟨?_, ?_, ?_, ?_⟩, ⟨?_, ?_, r3⟩, ?_, fun j hj => ?_⟩
    · rw [hf 10 (by decide) (by decide), m1 6 (by decide) (by decide)]; exact q1
    · rw [hf 11 (by decide) (by decide), m1 5 (by decide) (by decide)]; exact q2
    · rw [hf 12 (by decide) (by decide), m1 7 (by decide) (by decide)]; exact q3
    · rw [hf 13 (by decide) (by decide), m1 8 (by decide) (by decide)]; exact q4
    · rw [hf 15 (by decide) (by decide)]; exact r1
    · rw [m1 12 (by decide) (by decide)]; exact r2
    · rw [hf 16 (by decide) (by decide), hf 17 (by decide) (by decide), hf 18 (by decide) (by decide), hf 19 (by decide) (by decide), m1 9 (by decide) (by decide), m1 10 (by decide) (by decide), m1 11 (by decide) (by decide)]
      exact u
    · obtain ⟨v1, v2, v3, v4, v5, v6⟩ := v j hj
      obtain ⟨p1, p2⟩ := hP _ v2
      have hj4 : j < 4 := by omega
      refine ⟨by rw [hB i hi hii j hj4]; exact v1, p1, ?_, ?_, ?_, ?_⟩
      · rw [p2 20 (by decide) (by decide), m2 13 j (by decide) (by decide) hj4]; exact v3
      · rw [p2 21 (by decide) (by decide), m2 14 j (by decide) (by decide) hj4]; exact v4
      · rw [p2 22 (by decide) (by decide), m2 15 j (by decide) (by decide) hj4]; exact v5
      · rw [p2 23 (by decide) (by decide), m2 16 j (by decide) (by decide) hj4]; exact v6
theorem u2_ne1 {α : Type} {f : Nat → Nat → α} {i j x y : Nat} {v : α} (h : x ≠ i) : u2 f i j v x y = f x y := by rw [u2_at, if_neg (fun z => h z.1)]
theorem u2_ne2 {α : Type} {f : Nat → Nat → α} {i j x y : Nat} {v : α} (h : y ≠ j) : u2 f i j v x y = f x y := by rw [u2_at, if_neg (fun z => h z.2)]
theorem u2_eq {α : Type} {f : Nat → Nat → α} {i j : Nat} {v : α} : u2 f i j v i j = v := by rw [u2_at, if_pos ⟨rfl, rfl⟩]
theorem aAdd_ne {M : Nat → Nat → Int32} {n i : Nat} {mk key day : Int32} (h : i ≠ n) (f : Nat) : aAdd M n mk key day f i = M f i := by
  unfold aAdd
  rw [u2_ne2 h, u2_ne2 h, u2_ne2 h, u2_ne2 h, u2_ne2 h, u2_ne2 h]
theorem aAdd_ge {M : Nat → Nat → Int32} {n i f : Nat} {mk key day : Int32} (h : 13 ≤ f) : aAdd M n mk key day f i = M f i := by
  unfold aAdd
  rw [u2_ne1 (by omega), u2_ne1 (by omega), u2_ne1 (by omega), u2_ne1 (by omega), u2_ne1 (by omega), u2_ne1 (by omega)]
theorem beginS_ne {S : hS} {a b x : Nat} {mk key day : Int32} (h : b ≠ a) : sF (beginS S a mk key day) x b = sF S x b := by
  unfold beginS
  simp only [sF_uF, h, and_false, if_false]
theorem beginS_ge {S : hS} {a b x : Nat} {mk key day : Int32} (h : x < 10 ∨ 20 ≤ x) : sF (beginS S a mk key day) x b = sF S x b := by
  unfold beginS
  rw [sF_uF, if_neg (by omega), sF_uF, if_neg (by omega), sF_uF, if_neg (by omega), sF_uF, if_neg (by omega), sF_uF, if_neg (by omega), sF_uF, if_neg (by omega)]
theorem sB_appS (S : hS) (h a n : Nat) (mk key day : Int32) : sB (appS S h a n mk key day) = sB S := by
  unfold appS beginS
  rw [sB_uF, sB_uF, sB_uF, sB_uF, sB_uF, sB_uF, sB_uF]
theorem appS_ge {S : hS} {h a n x b : Nat} {mk key day : Int32} (hx : x < 10 ∨ 20 ≤ x) (h41 : x ≠ 41) : sF (appS S h a n mk key day) x b = sF S x b := by
  unfold appS
  rw [beginS_ge hx, sF_uF, if_neg (fun z => h41 z.1)]
theorem appS_ne {S : hS} {h a n x b : Nat} {mk key day : Int32} (hb : b ≠ a) (h41 : x ≠ 41) : sF (appS S h a n mk key day) x b = sF S x b := by
  unfold appS
  rw [beginS_ne hb, sF_uF, if_neg (fun z => h41 z.1)]
theorem appS_41 {S : hS} {h a n : Nat} {mk key day : Int32} : sF (appS S h a n mk key day) 41 h = nI (n + 1) := by
  unfold appS
  rw [beginS_ge (by omega), sF_uF, if_pos ⟨rfl, rfl⟩]
theorem lnR_begin {S : hS} {a pa n : Nat} {pt : Nat → Nat} {M : Nat → Nat → Int32} {mk key day : Int32} : lnR (beginS S a mk key day) a pa pt (aAdd M n mk key day) n 0 := by
  refine ⟨?_, ?_, ?_, fun k hk => absurd hk (Nat.not_lt_zero k)⟩
  · unfold beginS aAdd
    simp only [tF_uF, u2_at']
    simp
  · unfold beginS aAdd
    simp only [tF_uF, u2_at']
    simp [nI_0]
  · unfold beginS aAdd
    simp only [tF_uF, u2_at']
    simp
theorem cC_append {S : hS} {h bk ca sa : Nat} {ad pa : Nat → Nat} {sc : Nat → Int32} {M : Nat → Nat → Int32} {n nc ns : Nat} {mk key day : Int32} (hG : cG S h bk ca sa ad pa) (hC : cC S h ca sa ad pa sc M n nc ns) (hn : n < 40) :
    cC (appS S h (ad n) n mk key day) h ca sa ad pa (scN sc (n + 1)) (aAdd M n mk key day) (n + 1) nc ns := by
  have hcl := clF_appS S h (ad n) n mk key day
  refine ⟨⟨appS_41, va_up_self _ _ _, hn⟩, cL_to n hC.2.1 (fun i h1 h2 => by omega) (fun i h1 h2 x h3 h4 => appS_ne (fun z => h2 (hG.2.2.2.2.2.1 i n (by omega) hn z)) (by omega)) (fun a ha => ⟨hcl.1 a 2 ha, fun x h3 h4 => appS_ge (by omega) (by omega)⟩) (fun _ _ _ _ _ => by rw [sB_appS]) (fun i hi => ⟨fun f _ _ => aAdd_ne hi f, fun f k hf _ _ => aAdd_ge hf⟩) (fun _ => ⟨fun _ => 0, 0, lnR_begin⟩),
    cX_to hC.2.2 hcl.1 (fun x a h3 _ => appS_ge (by omega) (by omega)) (fun x h3 h4 => appS_ge (by omega) (by omega)) (fun _ _ => by rw [sB_appS]) (fun _ _ => by rw [sB_appS]) (fun x hx => va_up_ne _ _ hx) (fun f i hf => aAdd_ge (by omega))⟩
end
section
set_option maxHeartbeats 4000000 in
set_option maxRecDepth 100000 in
theorem c_X1_begin {l : Launch} {g : hG} {X : va_W} {S : hS} {a : Nat} {mk key day : Int32} (hO1 : isO S a 1) : hMet l yX1_begin wsX1_begin rm_X1_begin g X S [.ref a, .int mk, .int key, .int day] (pV (beginS S a mk key day)) := by
  refine h_start (maxL := 4) (ret := none) (by decide) rfl (Nat.le_of_ble_eq_true rfl) ?_
  intro p e s m args below meth c F hr hinit
  refine q_aload_n F 0 dX1_begin_0 rfl rfl ?_
  refine q_iload_n F 1 dX1_begin_1 rfl rfl ?_
  refine qp_X1_17 F hO1 dX1_begin_2 ?_
  refine q_aload_n F 0 dX1_begin_5 rfl rfl ?_
  refine q_iload_n F 2 dX1_begin_6 rfl rfl ?_
  refine qp_X1_21 F (o_uF hO1) dX1_begin_7 ?_
  refine q_aload_n F 0 dX1_begin_10 rfl rfl ?_
  refine q_iload_n F 3 dX1_begin_11 rfl rfl ?_
  refine qp_X1_24 F (o_uF (o_uF hO1)) dX1_begin_12 ?_
  refine q_aload_n F 0 dX1_begin_15 rfl rfl ?_
  refine q_iconst F dX1_begin_16 hc_m1 ?_
  refine qp_X1_27 F (o_uF (o_uF (o_uF hO1))) dX1_begin_17 ?_
  refine q_aload_n F 0 dX1_begin_20 rfl rfl ?_
  refine q_iconst F dX1_begin_21 hc_0 ?_
  refine qp_X1_30 F (o_uF (o_uF (o_uF (o_uF hO1)))) dX1_begin_22 ?_
  refine q_aload_n F 0 dX1_begin_25 rfl rfl ?_
  refine q_iconst F dX1_begin_26 hc_0 ?_
  refine qp_X1_33 F (by first | exact Or.inl rfl | exact Or.inr rfl | assumption) (o_uF (o_uF (o_uF (o_uF (o_uF hO1))))) dX1_begin_27 ?_
  exact (q_retv F hr dX1_begin_30 (Nat.le_of_ble_eq_true rfl) (Nat.le_of_ble_eq_true rfl) ⟨rfl, rfl⟩)

set_option maxHeartbeats 4000000 in
set_option maxRecDepth 100000 in
theorem c_X1_takeHash {l : Launch} {g : hG} {X : va_W} {S : hS} {a : Nat} {name port salt : Int32} (hO1 : isO S a 1) : hMet l yX1_takeHash wsX1_takeHash rm_X1_takeHash g X S [.ref a, .int name, .int port, .int salt] (pV (hashS S a name port salt)) := by
  refine h_start (maxL := 4) (ret := none) (by decide) rfl (Nat.le_of_ble_eq_true rfl) ?_
  intro p e s m args below meth c F hr hinit
  refine q_aload_n F 0 dX1_takeHash_0 rfl rfl ?_
  refine q_iconst F dX1_takeHash_1 hc_1 ?_
  refine qp_X1_33 F (by first | exact Or.inl rfl | exact Or.inr rfl | assumption) hO1 dX1_takeHash_2 ?_
  refine q_aload_n F 0 dX1_takeHash_5 rfl rfl ?_
  refine q_iload_n F 1 dX1_takeHash_6 rfl rfl ?_
  refine q_iload_n F 3 dX1_takeHash_7 rfl rfl ?_
  refine q_callS_i F (c_X1_hashOf) gX1_takeHash_X1_hashOf rfl hd_X1_hashOf ⟨Nat.le_of_ble_eq_true rfl, Nat.le_of_ble_eq_true rfl⟩ rfl rfl (Nat.le_of_ble_eq_true rfl) dX1_takeHash_8 ⟨Nat.le_of_ble_eq_true rfl, Nat.le_of_ble_eq_true rfl⟩ ?_
  refine qp_X1_51 F (o_uF hO1) dX1_takeHash_11 ?_
  refine q_aload_n F 0 dX1_takeHash_14 rfl rfl ?_
  refine q_iload_n F 3 dX1_takeHash_15 rfl rfl ?_
  refine qp_X1_54 F (o_uF (o_uF hO1)) dX1_takeHash_16 ?_
  refine q_aload_n F 0 dX1_takeHash_19 rfl rfl ?_
  refine q_iload_n F 2 dX1_takeHash_20 rfl rfl ?_
  refine qp_X1_57 F (o_uF (o_uF (o_uF hO1))) dX1_takeHash_21 ?_
  exact (q_retv F hr dX1_takeHash_24 (Nat.le_of_ble_eq_true rfl) (Nat.le_of_ble_eq_true rfl) ⟨rfl, rfl⟩)

def endS (S : hS) (a : Nat) (d : Int32) : hS := if sF S 13 a = -1 ∨ d < sF S 13 a then uF S 13 a d else S
set_option maxHeartbeats 4000000 in
set_option maxRecDepth 100000 in
theorem c_X1_endBy {l : Launch} {g : hG} {X : va_W} {S : hS} {a : Nat} {d : Int32} (hO1 : isO S a 1) : hMet l yX1_endBy wsX1_endBy rm_X1_endBy g X S [.ref a, .int d] (pV (endS S a d)) := by
  refine h_start (maxL := 2) (ret := none) (by decide) rfl (Nat.le_of_ble_eq_true rfl) ?_
  intro p e s m args below meth c F hr hinit
  refine q_aload_n F 0 dX1_endBy_0 rfl rfl ?_
  refine qg_X1_27 F hO1 dX1_endBy_1 ?_
  refine q_iconst F dX1_endBy_4 hc_m1 ?_
  refine q_icmp_eq F 16 dX1_endBy_5 rfl (fun c5 => ?_) (fun c5 => ?_)
  · refine q_aload_n F 0 dX1_endBy_16 rfl rfl ?_
    refine q_iload_n F 1 dX1_endBy_17 rfl rfl ?_
    refine qp_X1_27 F hO1 dX1_endBy_18 ?_
    exact (q_retv F hr dX1_endBy_21 (Nat.le_of_ble_eq_true rfl) (Nat.le_of_ble_eq_true rfl) ⟨rfl, by unfold endS; first | rw [if_pos (Or.inl c5)] | rw [if_pos (Or.inr (Int32.not_le.mp c13))] | rw [if_neg (fun z => z.elim c5 (fun z => Int32.not_le.mpr z c13))]⟩)
  refine q_aload_n F 0 dX1_endBy_8 rfl rfl ?_
  refine qg_X1_27 F hO1 dX1_endBy_9 ?_
  refine q_iload_n F 1 dX1_endBy_12 rfl rfl ?_
  refine q_icmp_le F 21 dX1_endBy_13 rfl (fun c13 => ?_) (fun c13 => ?_)
  · exact (q_retv F hr dX1_endBy_21 (Nat.le_of_ble_eq_true rfl) (Nat.le_of_ble_eq_true rfl) ⟨rfl, by unfold endS; first | rw [if_pos (Or.inl c5)] | rw [if_pos (Or.inr (Int32.not_le.mp c13))] | rw [if_neg (fun z => z.elim c5 (fun z => Int32.not_le.mpr z c13))]⟩)
  refine q_aload_n F 0 dX1_endBy_16 rfl rfl ?_
  refine q_iload_n F 1 dX1_endBy_17 rfl rfl ?_
  refine qp_X1_27 F hO1 dX1_endBy_18 ?_
  exact (q_retv F hr dX1_endBy_21 (Nat.le_of_ble_eq_true rfl) (Nat.le_of_ble_eq_true rfl) ⟨rfl, by unfold endS; first | rw [if_pos (Or.inl c5)] | rw [if_pos (Or.inr (Int32.not_le.mp c13))] | rw [if_neg (fun z => z.elim c5 (fun z => Int32.not_le.mpr z c13))]⟩)

set_option maxHeartbeats 4000000 in
set_option maxRecDepth 100000 in
theorem c_X2_init {l : Launch} {g : hG} {X : va_W} {S : hS} {a : Nat} {name places port den : Int32} (hO2 : isO S a 2) (hB : isB den) : hMet l yX2_init wsX2_init rm_X2_init g X S [.ref a, .int name, .int places, .int port, .int den] (pV (patI S a name places port den)) := by
  refine h_start (maxL := 5) (ret := none) (by decide) rfl (Nat.le_of_ble_eq_true rfl) ?_
  intro p e s m args below meth c F hr hinit
  refine q_aload_n F 0 dX2_init_0 rfl rfl ?_
  refine q_objInit F (List.mem_of_getElem? (i := 149) (by decide +kernel)) dX2_init_1 ⟨Nat.le_of_ble_eq_true rfl, Nat.le_of_ble_eq_true rfl⟩ ?_
  refine q_aload_n F 0 dX2_init_4 rfl rfl ?_
  refine q_iload_n F 1 dX2_init_5 rfl rfl ?_
  refine qp_X2_7 F hinit hO2 dX2_init_6 ?_
  refine q_aload_n F 0 dX2_init_9 rfl rfl ?_
  refine q_iload_n F 2 dX2_init_10 rfl rfl ?_
  refine qp_X2_13 F hinit (o_uF hO2) dX2_init_11 ?_
  refine q_aload_n F 0 dX2_init_14 rfl rfl ?_
  refine q_iload_n F 3 dX2_init_15 rfl rfl ?_
  refine qp_X2_16 F hinit (o_uF (o_uF hO2)) dX2_init_16 ?_
  refine q_aload_n F 0 dX2_init_19 rfl rfl ?_
  refine q_iload F dX2_init_20 rfl ?_
  refine qp_X2_19 F hinit hB (o_uF (o_uF (o_uF hO2))) dX2_init_22 ?_
  exact (q_retv F hr dX2_init_25 (Nat.le_of_ble_eq_true rfl) (Nat.le_of_ble_eq_true rfl) ⟨rfl, rfl⟩)

set_option maxHeartbeats 4000000 in
set_option maxRecDepth 100000 in
theorem c_X0_init {l : Launch} {g : hG} {X : va_W} {S : hS} {a : Nat} {x0 x1 x2 x3 x4 x5 x6 : Int32} (hO0 : isO S a 0) : hMet l yX0_init wsX0_init rm_X0_init g X S [.ref a, .int x0, .int x1, .int x2, .int x3, .int x4, .int x5, .int x6] (pV (certI S a x0 x1 x2 x3 x4 x5 x6)) := by
  refine h_start (maxL := 8) (ret := none) (by decide) rfl (Nat.le_of_ble_eq_true rfl) ?_
  intro p e s m args below meth c F hr hinit
  refine q_aload_n F 0 dX0_init_0 rfl rfl ?_
  refine q_objInit F (List.mem_of_getElem? (i := 236) (by decide +kernel)) dX0_init_1 ⟨Nat.le_of_ble_eq_true rfl, Nat.le_of_ble_eq_true rfl⟩ ?_
  refine q_aload_n F 0 dX0_init_4 rfl rfl ?_
  refine q_iload_n F 1 dX0_init_5 rfl rfl ?_
  refine qp_X0_7 F hinit hO0 dX0_init_6 ?_
  refine q_aload_n F 0 dX0_init_9 rfl rfl ?_
  refine q_iload_n F 2 dX0_init_10 rfl rfl ?_
  refine qp_X0_13 F hinit (o_uF hO0) dX0_init_11 ?_
  refine q_aload_n F 0 dX0_init_14 rfl rfl ?_
  refine q_iload_n F 3 dX0_init_15 rfl rfl ?_
  refine qp_X0_16 F hinit (o_uF (o_uF hO0)) dX0_init_16 ?_
  refine q_aload_n F 0 dX0_init_19 rfl rfl ?_
  refine q_iload F dX0_init_20 rfl ?_
  refine qp_X0_19 F hinit (o_uF (o_uF (o_uF hO0))) dX0_init_22 ?_
  refine q_aload_n F 0 dX0_init_25 rfl rfl ?_
  refine q_iload F dX0_init_26 rfl ?_
  refine qp_X0_22 F hinit (o_uF (o_uF (o_uF (o_uF hO0)))) dX0_init_28 ?_
  refine q_aload_n F 0 dX0_init_31 rfl rfl ?_
  refine q_iload F dX0_init_32 rfl ?_
  refine qp_X0_25 F hinit (o_uF (o_uF (o_uF (o_uF (o_uF hO0))))) dX0_init_34 ?_
  refine q_aload_n F 0 dX0_init_37 rfl rfl ?_
  refine q_iload F dX0_init_38 rfl ?_
  refine qp_X0_28 F hinit (o_uF (o_uF (o_uF (o_uF (o_uF (o_uF hO0)))))) dX0_init_40 ?_
  exact (q_retv F hr dX0_init_43 (Nat.le_of_ble_eq_true rfl) (Nat.le_of_ble_eq_true rfl) ⟨rfl, rfl⟩)

set_option maxHeartbeats 4000000 in
set_option maxRecDepth 100000 in
theorem c_X3_init {l : Launch} {g : hG} {X : va_W} {S : hS} {a : Nat} {x0 x1 x2 : Int32} (hO3 : isO S a 3) : hMet l yX3_init wsX3_init rm_X3_init g X S [.ref a, .int x0, .int x1, .int x2] (pV (spanI S a x0 x1 x2)) := by
  refine h_start (maxL := 4) (ret := none) (by decide) rfl (Nat.le_of_ble_eq_true rfl) ?_
  intro p e s m args below meth c F hr hinit
  refine q_aload_n F 0 dX3_init_0 rfl rfl ?_
  refine q_objInit F (List.mem_of_getElem? (i := 262) (by decide +kernel)) dX3_init_1 ⟨Nat.le_of_ble_eq_true rfl, Nat.le_of_ble_eq_true rfl⟩ ?_
  refine q_aload_n F 0 dX3_init_4 rfl rfl ?_
  refine q_iload_n F 1 dX3_init_5 rfl rfl ?_
  refine qp_X3_7 F hinit hO3 dX3_init_6 ?_
  refine q_aload_n F 0 dX3_init_9 rfl rfl ?_
  refine q_iload_n F 2 dX3_init_10 rfl rfl ?_
  refine qp_X3_13 F hinit (o_uF hO3) dX3_init_11 ?_
  refine q_aload_n F 0 dX3_init_14 rfl rfl ?_
  refine q_iload_n F 3 dX3_init_15 rfl rfl ?_
  refine qp_X3_16 F hinit (o_uF (o_uF hO3)) dX3_init_16 ?_
  exact (q_retv F hr dX3_init_19 (Nat.le_of_ble_eq_true rfl) (Nat.le_of_ble_eq_true rfl) ⟨rfl, rfl⟩)

set_option maxHeartbeats 4000000 in
set_option maxRecDepth 100000 in
theorem c_X1_init {l : Launch} {g : hG} {X : va_W} {S : hS} {a : Nat} (hO1 : isO S a 1) : hMet l yX1_init wsX1_init rm_X1_init g X S [.ref a] (pGV (fun S' => ∃ q, q ∉ sL S ∧ S' = uR (nA S 10 q 4) 14 a (some q))) := by
  refine h_start (maxL := 1) (ret := none) (by decide) rfl (Nat.le_of_ble_eq_true rfl) ?_
  intro p e s m args below meth c F hr hinit
  refine q_aload_n F 0 dX1_init_0 rfl rfl ?_
  refine q_objInit F (List.mem_of_getElem? (i := 25) (by decide +kernel)) dX1_init_1 ⟨Nat.le_of_ble_eq_true rfl, Nat.le_of_ble_eq_true rfl⟩ ?_
  refine q_aload_n F 0 dX1_init_4 rfl rfl ?_
  refine q_iconst F dX1_init_5 hc_4 ?_
  refine qan_X1_9 F ⟨Nat.le_of_ble_eq_true rfl, Nat.le_of_ble_eq_true rfl⟩ dX1_init_6 (fun q6 hqq6 => ?_)
  refine qp_X1_11 F hinit (isO_nA' hO1 hqq6) dX1_init_9 ?_
  exact (q_retv F hr dX1_init_12 (Nat.le_of_ble_eq_true rfl) (Nat.le_of_ble_eq_true rfl) ⟨rfl, q6, hqq6, rfl⟩)
end
