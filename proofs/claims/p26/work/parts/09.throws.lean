/-! throwing, catching -/
def hBad (cls : String) : List Cond := [Cond.castable cls cls, Cond.declares ⟨"java/lang/RuntimeException", "<init>", "(Ljava/lang/String;)V"⟩, Cond.declares ⟨"java/lang/Exception", "<init>", "(Ljava/lang/String;)V"⟩, Cond.declares ⟨"java/lang/Throwable", "<init>", "(Ljava/lang/String;)V"⟩]
def hNames : List String := ["java/lang/RuntimeException", "java/lang/Exception"]
section HThrow
variable {p : Program} {l : Launch} {e : Env} {R : Room} {s : State} {m : MethodId} {args : Array Value} {below : List Frame} {meth : Method} {c : Code} {nL : Nat} {g : hG} {X : va_W} {Q : State → Prop} {S : hS} {cells slots : Nat} {lv : List (Nat × Value)} {pc : Nat} {st rest : List Value} {cc : ByteArray} {Ts : List Cond} {own : String}
variable {post : Option Value → hS → Prop} {px : String → hS → Prop} {mc ms : Nat}
theorem hw_kept {H H1 : Heap} (h : hw g X S H) (ho : ∀ q : Nat, q < H.size → H1[q]? = H[q]?) : hw g X S H1 := ⟨h.1.kept fun k q hq => ho q.1 (h.1 k q hq).lt, h.2⟩
theorem q_throwG {cls text : String} {ik is ic : Nat} (F : hF p l s m args meth c cc nL Ts own g) (hst : l.stackTraces = false) (ht : ∀ x ∈ c.exceptionTable.toList, False) (hcls : Bundle.fit cls = true)
    (hk1 : Cond.classLink own ik cls ∈ wsL_law) (hini : Cond.initialized cls ∈ wsL_law) (hE : cls ∈ hEx) (hstr : (own, is, text) ∈ hStr) (hat : ∀ w ∈ (vx_atS own ic cls hNames).filter goodWord, w ∈ wsL_law)
    (hbad : ∀ w ∈ (vx_atS own ic cls hNames).filter (fun w => !goodWord w), w ∈ hBad cls) (hot : (Cond.classLink own ik cls :: Cond.initialized cls :: vx_atS own ic cls hNames).all vx_ot = true)
    (d0 : decode cc pc = .ok (.new ik, 3)) (d3 : decode cc (pc + 3) = .ok (.dup, 1)) (d4 : decode cc (pc + 4) = .ok (.ldc is, 2)) (d6 : decode cc (pc + 6) = .ok (.invokespecial ic, 3)) (d9 : decode cc (pc + 9) = .ok (.athrow, 1))
    (hR : 6 ≤ R.frames ∧ (st.map fun v => v.category).sum + 82 ≤ R.locals) (hRc : cells + 1 ≤ R.cells ∧ slots + 6 ≤ R.slots) (hc : cells + 1 ≤ mc) (hs : slots + 6 ≤ ms) (h : px cls S) :
    V p l e R s m args below meth c nL g X (vx_MQ below (hQ g X post) (hXC g X px) args s mc ms (hA g)) S cells slots lv pc st := by
  intro H locs ls hw0 hS0 hl
  obtain ⟨sa, hsa⟩ := F.2.1.2.2.2.2.2.2.2.1 _ hstr
  refine vx_throwS (names := hNames) F.1.1 F.1.2.1 hst F.1.2.2.2.1 hcls (by decide +kernel) (hk_word F.2.1 hk1 args) (hk_word F.2.1 hini args) hsa ?_ (fun w hw => List.all_eq_true.mp hot w hw) F.2.1.2.1 F.2.1.2.2.1 hS0 (hl.1.trans F.1.2.2.1.symm) d0 d3 d4 d6 d9 (fun x hx => (ht x hx).elim) ?_ ?_ hRc.1 hRc.2 F.2.2.1 ?_ hS0.2.2 hc hs
  · exact vx_hat (B := hBad cls) (fun w hw => hk_word F.2.1 (hat w hw) args) hbad (vx_c (va_tabs rfl rfl (F.2.1.2.2.2.2.2.2.2.2.1 cls hE)) (vx_c (va_Nw.use rfl (F.2.1.2.2.2.2.2.2.2.2.2.2 _ (List.mem_of_getElem? (i := 0) rfl))) (vx_c (va_Nw.use rfl (F.2.1.2.2.2.2.2.2.2.2.2.2 _ (List.mem_of_getElem? (i := 1) rfl))) (vx_c (va_Nw.use rfl (F.2.1.2.2.2.2.2.2.2.2.2.2 _ (List.mem_of_getElem? (i := 2) rfl))) vx_n))))
  · show 2 + 3 < R.frames
    omega
  · show _ + (13 * (2 + 1) + 43) ≤ R.locals
    omega
  · intro t hal hz ho
    exact ⟨S, h, hw_kept hw0 ho, Nat.le_trans hS0.1 hz, fun q h1 h2 => (ho q (Nat.lt_of_lt_of_le h1 hS0.1)).trans (hS0.2.1 q h1 h2)⟩
theorem h_startH {y : MethodName} {ws ws' : List Cond} {rm : Room} {av : List Value} {maxL : Nat} {ret : Option FieldType} {hh : List (Nat × Nat × Nat × Nat)}
    (hy : plainName y.cls = true) (hws : ws = Cond.codeWith y cc maxL ret hh :: ws') (hlen : (lg_sl av).length ≤ maxL)
    (body : ∀ (p : Program) (e : Env) (s : State) (m : MethodId) (args : Array Value) (below : List Frame) (meth : Method) (c : Code), hF p l s m args meth c cc maxL ws y.cls g → meth.sig.returnType = ret → c.exceptionTable.toList = tableOf hh →
      V p l e rm s m args below meth c maxL g X (vx_MQ below (hQ g X post) (hXC g X px) args s rm.cells rm.slots (hA g)) S 0 0 (lv_args 0 av) 0 []) : hMetX l y ws rm g X S av post px := by
  refine vx_ofWH (cc := cc) (maxL := maxL) (ret := ret) hy hws ?_
  intro p e s m args below meth c s₁ B hml hv
  obtain ⟨rfl, hz0, hwH, hkH⟩ := hv
  have hts := atoms_spec (ws := ws) B.pre
  have hF9 : hF p l s m av.toArray meth c cc maxL ws y.cls g := ⟨⟨B.exec, B.bytes, hml, findClass_of_methodNamed B.named, hts⟩, hkH, B.notSynchronized, hz0⟩
  rw [lg_entry_eq]
  exact body p e s m _ below meth c hF9 B.returns (vx_table (x := y) B (hts _ (by rw [hws]; exact List.mem_cons_self))) s.heap [] _ hwH va_S.rf (lv_entry av hlen)
theorem q_callSH {index n maxL : Nat} {y : MethodName} {bytes : ByteArray} {ret : Option FieldType} {ws ws' : List Cond} {rm : Room} {As st0 : List Value} {hh : List (Nat × Nat × Nat × Nat)} (F : hF p l s m args meth c cc nL Ts own g) (hM : hMetX l y ws rm g X S As post (fun _ _ => False)) (hG : GoodIn Ts (va_wsS own index y ws)) (hw1 : ws = Cond.codeWith y bytes maxL ret hh :: ws') (hd : y.cls ≠ "java/lang/invoke/MethodHandle" ∧ y.cls ≠ "java/lang/invoke/VarHandle" ∧ (parseMethodDescriptor y.desc).map (fun d => d.parameters.length) = some n) (hR : rm.frames + 1 ≤ R.frames ∧ 8 + (maxL + 11) + rm.locals ≤ R.locals) (hn : As.length = n) (hst : st0 = As.reverse ++ rest) (hr : (rest.map fun v => v.category).sum ≤ 8) (d : decode cc pc = .ok (.invokestatic index, 3)) (hf : cells + rm.cells ≤ R.cells ∧ slots + rm.slots ≤ R.slots)
    (kk : ∀ (v : Option Value) (S' : hS), post v S' → V p l e R s m args below meth c nL g X Q S' (cells + rm.cells) (slots + rm.slots) lv (pc + 3) (v.toList ++ rest)) : V p l e R s m args below meth c nL g X Q S cells slots lv pc st0 := by
  intro H locs ls hw0 hS0 hl
  subst hst
  exact h_callX (vx_runSX F.1 hM (vx_cwSW n F.1.2.2.2.2 hG hw1 rfl rfl hd hR) (h_preS F.2.2.2 F.2.1 hw0 hS0) rfl hn hl.1 rfl (lv_room hr) d hf) hS0 (fun E S' H1 locs1 ce q hp => hp.elim) (fun v S' H1 locs1 hp hw1 hS1 => kk v S' hp H1 locs1 ls hw1 hS1 hl)
end HThrow
theorem hat_4_133 : ∀ w ∈ (vx_atS RX4 133 "java/lang/IllegalArgumentException" hNames).filter goodWord, w ∈ wsL_law := fun _ h => List.mem_append_left _ (List.mem_append_left _ (List.mem_append_left _ (List.mem_append_right _ h)))
theorem hat_4_78 : ∀ w ∈ (vx_atS RX4 78 "java/lang/IllegalStateException" hNames).filter goodWord, w ∈ wsL_law := fun _ h => List.mem_append_left _ (List.mem_append_left _ (List.mem_append_right _ h))
theorem hat_4_174 : ∀ w ∈ (vx_atS RX4 174 "java/lang/IndexOutOfBoundsException" hNames).filter goodWord, w ∈ wsL_law := fun _ h => List.mem_append_left _ (List.mem_append_right _ h)
theorem hat_1_41 : ∀ w ∈ (vx_atS RX1 41 "java/lang/IllegalStateException" hNames).filter goodWord, w ∈ wsL_law := fun _ h => List.mem_append_right _ h
section HThrows
variable {p : Program} {l : Launch} {e : Env} {R : Room} {s : State} {m : MethodId} {args : Array Value} {below : List Frame} {meth : Method} {c : Code} {nL : Nat} {g : hG} {X : va_W} {Q : State → Prop} {S : hS} {cells slots : Nat} {lv : List (Nat × Value)} {pc : Nat} {st rest : List Value} {cc : ByteArray} {Ts : List Cond} {own : String}
variable {post : Option Value → hS → Prop} {px : String → hS → Prop} {mc ms : Nat}
theorem qt_X4_121 (F : hF p l s m args meth c cc nL Ts RX4 g) (hst : l.stackTraces = false) (ht : ∀ x ∈ c.exceptionTable.toList, False) (d0 : decode cc pc = .ok (.new 74, 3)) (d3 : decode cc (pc + 3) = .ok (.dup, 1)) (d4 : decode cc (pc + 4) = .ok (.ldc 121, 2)) (d6 : decode cc (pc + 6) = .ok (.invokespecial 78, 3)) (d9 : decode cc (pc + 9) = .ok (.athrow, 1))
    (hR : 6 ≤ R.frames ∧ (st.map fun v => v.category).sum + 82 ≤ R.locals) (hRc : cells + 1 ≤ R.cells ∧ slots + 6 ≤ R.slots) (hc : cells + 1 ≤ mc) (hs : slots + 6 ≤ ms) (h : px "java/lang/IllegalStateException" S) :
    V p l e R s m args below meth c nL g X (vx_MQ below (hQ g X post) (hXC g X px) args s mc ms (hA g)) S cells slots lv pc st :=
  q_throwG F hst ht (by decide +kernel) (List.mem_of_getElem? (i := 100) (by decide +kernel)) (List.mem_of_getElem? (i := 101) (by decide +kernel)) (by decide) (List.mem_of_getElem? (i := 0) rfl) hat_4_78 (by decide +kernel) (by decide +kernel) d0 d3 d4 d6 d9 hR hRc hc hs h
theorem qt_X4_131 (F : hF p l s m args meth c cc nL Ts RX4 g) (hst : l.stackTraces = false) (ht : ∀ x ∈ c.exceptionTable.toList, False) (d0 : decode cc pc = .ok (.new 129, 3)) (d3 : decode cc (pc + 3) = .ok (.dup, 1)) (d4 : decode cc (pc + 4) = .ok (.ldc 131, 2)) (d6 : decode cc (pc + 6) = .ok (.invokespecial 133, 3)) (d9 : decode cc (pc + 9) = .ok (.athrow, 1))
    (hR : 6 ≤ R.frames ∧ (st.map fun v => v.category).sum + 82 ≤ R.locals) (hRc : cells + 1 ≤ R.cells ∧ slots + 6 ≤ R.slots) (hc : cells + 1 ≤ mc) (hs : slots + 6 ≤ ms) (h : px "java/lang/IllegalArgumentException" S) :
    V p l e R s m args below meth c nL g X (vx_MQ below (hQ g X post) (hXC g X px) args s mc ms (hA g)) S cells slots lv pc st :=
  q_throwG F hst ht (by decide +kernel) (List.mem_of_getElem? (i := 49) (by decide +kernel)) (List.mem_of_getElem? (i := 50) (by decide +kernel)) (by decide) (List.mem_of_getElem? (i := 1) rfl) hat_4_133 (by decide +kernel) (by decide +kernel) d0 d3 d4 d6 d9 hR hRc hc hs h
theorem qt_X4_138 (F : hF p l s m args meth c cc nL Ts RX4 g) (hst : l.stackTraces = false) (ht : ∀ x ∈ c.exceptionTable.toList, False) (d0 : decode cc pc = .ok (.new 74, 3)) (d3 : decode cc (pc + 3) = .ok (.dup, 1)) (d4 : decode cc (pc + 4) = .ok (.ldc 138, 2)) (d6 : decode cc (pc + 6) = .ok (.invokespecial 78, 3)) (d9 : decode cc (pc + 9) = .ok (.athrow, 1))
    (hR : 6 ≤ R.frames ∧ (st.map fun v => v.category).sum + 82 ≤ R.locals) (hRc : cells + 1 ≤ R.cells ∧ slots + 6 ≤ R.slots) (hc : cells + 1 ≤ mc) (hs : slots + 6 ≤ ms) (h : px "java/lang/IllegalStateException" S) :
    V p l e R s m args below meth c nL g X (vx_MQ below (hQ g X post) (hXC g X px) args s mc ms (hA g)) S cells slots lv pc st :=
  q_throwG F hst ht (by decide +kernel) (List.mem_of_getElem? (i := 100) (by decide +kernel)) (List.mem_of_getElem? (i := 101) (by decide +kernel)) (by decide) (List.mem_of_getElem? (i := 2) rfl) hat_4_78 (by decide +kernel) (by decide +kernel) d0 d3 d4 d6 d9 hR hRc hc hs h
theorem qt_X4_140 (F : hF p l s m args meth c cc nL Ts RX4 g) (hst : l.stackTraces = false) (ht : ∀ x ∈ c.exceptionTable.toList, False) (d0 : decode cc pc = .ok (.new 74, 3)) (d3 : decode cc (pc + 3) = .ok (.dup, 1)) (d4 : decode cc (pc + 4) = .ok (.ldc 140, 2)) (d6 : decode cc (pc + 6) = .ok (.invokespecial 78, 3)) (d9 : decode cc (pc + 9) = .ok (.athrow, 1))
    (hR : 6 ≤ R.frames ∧ (st.map fun v => v.category).sum + 82 ≤ R.locals) (hRc : cells + 1 ≤ R.cells ∧ slots + 6 ≤ R.slots) (hc : cells + 1 ≤ mc) (hs : slots + 6 ≤ ms) (h : px "java/lang/IllegalStateException" S) :
    V p l e R s m args below meth c nL g X (vx_MQ below (hQ g X post) (hXC g X px) args s mc ms (hA g)) S cells slots lv pc st :=
  q_throwG F hst ht (by decide +kernel) (List.mem_of_getElem? (i := 100) (by decide +kernel)) (List.mem_of_getElem? (i := 101) (by decide +kernel)) (by decide) (List.mem_of_getElem? (i := 3) rfl) hat_4_78 (by decide +kernel) (by decide +kernel) d0 d3 d4 d6 d9 hR hRc hc hs h
theorem qt_X4_149 (F : hF p l s m args meth c cc nL Ts RX4 g) (hst : l.stackTraces = false) (ht : ∀ x ∈ c.exceptionTable.toList, False) (d0 : decode cc pc = .ok (.new 74, 3)) (d3 : decode cc (pc + 3) = .ok (.dup, 1)) (d4 : decode cc (pc + 4) = .ok (.ldc 149, 2)) (d6 : decode cc (pc + 6) = .ok (.invokespecial 78, 3)) (d9 : decode cc (pc + 9) = .ok (.athrow, 1))
    (hR : 6 ≤ R.frames ∧ (st.map fun v => v.category).sum + 82 ≤ R.locals) (hRc : cells + 1 ≤ R.cells ∧ slots + 6 ≤ R.slots) (hc : cells + 1 ≤ mc) (hs : slots + 6 ≤ ms) (h : px "java/lang/IllegalStateException" S) :
    V p l e R s m args below meth c nL g X (vx_MQ below (hQ g X post) (hXC g X px) args s mc ms (hA g)) S cells slots lv pc st :=
  q_throwG F hst ht (by decide +kernel) (List.mem_of_getElem? (i := 100) (by decide +kernel)) (List.mem_of_getElem? (i := 101) (by decide +kernel)) (by decide) (List.mem_of_getElem? (i := 4) rfl) hat_4_78 (by decide +kernel) (by decide +kernel) d0 d3 d4 d6 d9 hR hRc hc hs h
theorem qt_X4_168 (F : hF p l s m args meth c cc nL Ts RX4 g) (hst : l.stackTraces = false) (ht : ∀ x ∈ c.exceptionTable.toList, False) (d0 : decode cc pc = .ok (.new 129, 3)) (d3 : decode cc (pc + 3) = .ok (.dup, 1)) (d4 : decode cc (pc + 4) = .ok (.ldc 168, 2)) (d6 : decode cc (pc + 6) = .ok (.invokespecial 133, 3)) (d9 : decode cc (pc + 9) = .ok (.athrow, 1))
    (hR : 6 ≤ R.frames ∧ (st.map fun v => v.category).sum + 82 ≤ R.locals) (hRc : cells + 1 ≤ R.cells ∧ slots + 6 ≤ R.slots) (hc : cells + 1 ≤ mc) (hs : slots + 6 ≤ ms) (h : px "java/lang/IllegalArgumentException" S) :
    V p l e R s m args below meth c nL g X (vx_MQ below (hQ g X post) (hXC g X px) args s mc ms (hA g)) S cells slots lv pc st :=
  q_throwG F hst ht (by decide +kernel) (List.mem_of_getElem? (i := 49) (by decide +kernel)) (List.mem_of_getElem? (i := 50) (by decide +kernel)) (by decide) (List.mem_of_getElem? (i := 5) rfl) hat_4_133 (by decide +kernel) (by decide +kernel) d0 d3 d4 d6 d9 hR hRc hc hs h
theorem qt_X4_172 (F : hF p l s m args meth c cc nL Ts RX4 g) (hst : l.stackTraces = false) (ht : ∀ x ∈ c.exceptionTable.toList, False) (d0 : decode cc pc = .ok (.new 170, 3)) (d3 : decode cc (pc + 3) = .ok (.dup, 1)) (d4 : decode cc (pc + 4) = .ok (.ldc 172, 2)) (d6 : decode cc (pc + 6) = .ok (.invokespecial 174, 3)) (d9 : decode cc (pc + 9) = .ok (.athrow, 1))
    (hR : 6 ≤ R.frames ∧ (st.map fun v => v.category).sum + 82 ≤ R.locals) (hRc : cells + 1 ≤ R.cells ∧ slots + 6 ≤ R.slots) (hc : cells + 1 ≤ mc) (hs : slots + 6 ≤ ms) (h : px "java/lang/IndexOutOfBoundsException" S) :
    V p l e R s m args below meth c nL g X (vx_MQ below (hQ g X post) (hXC g X px) args s mc ms (hA g)) S cells slots lv pc st :=
  q_throwG F hst ht (by decide +kernel) (List.mem_of_getElem? (i := 118) (by decide +kernel)) (List.mem_of_getElem? (i := 119) (by decide +kernel)) (by decide) (List.mem_of_getElem? (i := 6) rfl) hat_4_174 (by decide +kernel) (by decide +kernel) d0 d3 d4 d6 d9 hR hRc hc hs h
theorem qt_X4_175 (F : hF p l s m args meth c cc nL Ts RX4 g) (hst : l.stackTraces = false) (ht : ∀ x ∈ c.exceptionTable.toList, False) (d0 : decode cc pc = .ok (.new 170, 3)) (d3 : decode cc (pc + 3) = .ok (.dup, 1)) (d4 : decode cc (pc + 4) = .ok (.ldc 175, 2)) (d6 : decode cc (pc + 6) = .ok (.invokespecial 174, 3)) (d9 : decode cc (pc + 9) = .ok (.athrow, 1))
    (hR : 6 ≤ R.frames ∧ (st.map fun v => v.category).sum + 82 ≤ R.locals) (hRc : cells + 1 ≤ R.cells ∧ slots + 6 ≤ R.slots) (hc : cells + 1 ≤ mc) (hs : slots + 6 ≤ ms) (h : px "java/lang/IndexOutOfBoundsException" S) :
    V p l e R s m args below meth c nL g X (vx_MQ below (hQ g X post) (hXC g X px) args s mc ms (hA g)) S cells slots lv pc st :=
  q_throwG F hst ht (by decide +kernel) (List.mem_of_getElem? (i := 118) (by decide +kernel)) (List.mem_of_getElem? (i := 119) (by decide +kernel)) (by decide) (List.mem_of_getElem? (i := 7) rfl) hat_4_174 (by decide +kernel) (by decide +kernel) d0 d3 d4 d6 d9 hR hRc hc hs h
theorem qt_X4_177 (F : hF p l s m args meth c cc nL Ts RX4 g) (hst : l.stackTraces = false) (ht : ∀ x ∈ c.exceptionTable.toList, False) (d0 : decode cc pc = .ok (.new 74, 3)) (d3 : decode cc (pc + 3) = .ok (.dup, 1)) (d4 : decode cc (pc + 4) = .ok (.ldc 177, 2)) (d6 : decode cc (pc + 6) = .ok (.invokespecial 78, 3)) (d9 : decode cc (pc + 9) = .ok (.athrow, 1))
    (hR : 6 ≤ R.frames ∧ (st.map fun v => v.category).sum + 82 ≤ R.locals) (hRc : cells + 1 ≤ R.cells ∧ slots + 6 ≤ R.slots) (hc : cells + 1 ≤ mc) (hs : slots + 6 ≤ ms) (h : px "java/lang/IllegalStateException" S) :
    V p l e R s m args below meth c nL g X (vx_MQ below (hQ g X post) (hXC g X px) args s mc ms (hA g)) S cells slots lv pc st :=
  q_throwG F hst ht (by decide +kernel) (List.mem_of_getElem? (i := 100) (by decide +kernel)) (List.mem_of_getElem? (i := 101) (by decide +kernel)) (by decide) (List.mem_of_getElem? (i := 8) rfl) hat_4_78 (by decide +kernel) (by decide +kernel) d0 d3 d4 d6 d9 hR hRc hc hs h
theorem qt_X4_76 (F : hF p l s m args meth c cc nL Ts RX4 g) (hst : l.stackTraces = false) (ht : ∀ x ∈ c.exceptionTable.toList, False) (d0 : decode cc pc = .ok (.new 74, 3)) (d3 : decode cc (pc + 3) = .ok (.dup, 1)) (d4 : decode cc (pc + 4) = .ok (.ldc 76, 2)) (d6 : decode cc (pc + 6) = .ok (.invokespecial 78, 3)) (d9 : decode cc (pc + 9) = .ok (.athrow, 1))
    (hR : 6 ≤ R.frames ∧ (st.map fun v => v.category).sum + 82 ≤ R.locals) (hRc : cells + 1 ≤ R.cells ∧ slots + 6 ≤ R.slots) (hc : cells + 1 ≤ mc) (hs : slots + 6 ≤ ms) (h : px "java/lang/IllegalStateException" S) :
    V p l e R s m args below meth c nL g X (vx_MQ below (hQ g X post) (hXC g X px) args s mc ms (hA g)) S cells slots lv pc st :=
  q_throwG F hst ht (by decide +kernel) (List.mem_of_getElem? (i := 100) (by decide +kernel)) (List.mem_of_getElem? (i := 101) (by decide +kernel)) (by decide) (List.mem_of_getElem? (i := 9) rfl) hat_4_78 (by decide +kernel) (by decide +kernel) d0 d3 d4 d6 d9 hR hRc hc hs h
theorem qt_X4_87 (F : hF p l s m args meth c cc nL Ts RX4 g) (hst : l.stackTraces = false) (ht : ∀ x ∈ c.exceptionTable.toList, False) (d0 : decode cc pc = .ok (.new 74, 3)) (d3 : decode cc (pc + 3) = .ok (.dup, 1)) (d4 : decode cc (pc + 4) = .ok (.ldc 87, 2)) (d6 : decode cc (pc + 6) = .ok (.invokespecial 78, 3)) (d9 : decode cc (pc + 9) = .ok (.athrow, 1))
    (hR : 6 ≤ R.frames ∧ (st.map fun v => v.category).sum + 82 ≤ R.locals) (hRc : cells + 1 ≤ R.cells ∧ slots + 6 ≤ R.slots) (hc : cells + 1 ≤ mc) (hs : slots + 6 ≤ ms) (h : px "java/lang/IllegalStateException" S) :
    V p l e R s m args below meth c nL g X (vx_MQ below (hQ g X post) (hXC g X px) args s mc ms (hA g)) S cells slots lv pc st :=
  q_throwG F hst ht (by decide +kernel) (List.mem_of_getElem? (i := 100) (by decide +kernel)) (List.mem_of_getElem? (i := 101) (by decide +kernel)) (by decide) (List.mem_of_getElem? (i := 10) rfl) hat_4_78 (by decide +kernel) (by decide +kernel) d0 d3 d4 d6 d9 hR hRc hc hs h
theorem qt_X1_39 (F : hF p l s m args meth c cc nL Ts RX1 g) (hst : l.stackTraces = false) (ht : ∀ x ∈ c.exceptionTable.toList, False) (d0 : decode cc pc = .ok (.new 37, 3)) (d3 : decode cc (pc + 3) = .ok (.dup, 1)) (d4 : decode cc (pc + 4) = .ok (.ldc 39, 2)) (d6 : decode cc (pc + 6) = .ok (.invokespecial 41, 3)) (d9 : decode cc (pc + 9) = .ok (.athrow, 1))
    (hR : 6 ≤ R.frames ∧ (st.map fun v => v.category).sum + 82 ≤ R.locals) (hRc : cells + 1 ≤ R.cells ∧ slots + 6 ≤ R.slots) (hc : cells + 1 ≤ mc) (hs : slots + 6 ≤ ms) (h : px "java/lang/IllegalStateException" S) :
    V p l e R s m args below meth c nL g X (vx_MQ below (hQ g X post) (hXC g X px) args s mc ms (hA g)) S cells slots lv pc st :=
  q_throwG F hst ht (by decide +kernel) (List.mem_of_getElem? (i := 144) (by decide +kernel)) (List.mem_of_getElem? (i := 101) (by decide +kernel)) (by decide) (List.mem_of_getElem? (i := 11) rfl) hat_1_41 (by decide +kernel) (by decide +kernel) d0 d3 d4 d6 d9 hR hRc hc hs h
end HThrows


