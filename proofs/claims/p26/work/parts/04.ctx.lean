def hStr : List (String × Nat × String) := [("HostKeyring", 121, "nothing waits"), ("HostKeyring", 131, "both keys are the same"), ("HostKeyring", 138, "the old key is not trusted"), ("HostKeyring", 140, "the new key is revoked"), ("HostKeyring", 149, "it would be behind the last day"), ("HostKeyring", 168, "an argument is out of range"), ("HostKeyring", 172, "there is no such line"), ("HostKeyring", 175, "there is no such certificate"), ("HostKeyring", 177, "there are as many lines as may be"), ("HostKeyring", 76, "there are as many certificates as may be"), ("HostKeyring", 87, "as many spans were revoked as may be"), ("HostKeyring$Line", 39, "the line takes no more patterns")]
theorem h_castable_warm {E F : String} {s U : State} (hW : s.WarmedH U.vm) (h : (Cond.castable E F).before #[] s = true) : (Cond.castable E F).before #[] U = true := by
  obtain ⟨a, b, h1, h2, h3⟩ := Cond.castable_spec h
  have hal := hW.alike
  have f1 : U.vm.findClass E = some a := by rw [hal.findClass]; exact h1
  have f2 : U.vm.findClass F = some b := by rw [hal.findClass]; exact h2
  have f3 : U.vm.assignable a b = true := by rw [hal.assignable]; exact h3
  simp [Cond.before, Cond.holds, Cond.value, f1, f2, f3]
theorem h_nc_warm {E F : String} {s U : State} (hW : s.WarmedH U.vm) (h : va_Nc E F s) : va_Nc E F U := by
  obtain ⟨a, b, h1, h2, h3⟩ := h
  have hal := hW.alike
  exact ⟨a, b, by rw [hal.findClass]; exact h1, by rw [hal.findClass]; exact h2, by rw [hal.assignable]; exact h3⟩
def hDc : List MethodName := [⟨"java/lang/RuntimeException", "<init>", "(Ljava/lang/String;)V"⟩, ⟨"java/lang/Exception", "<init>", "(Ljava/lang/String;)V"⟩, ⟨"java/lang/Throwable", "<init>", "(Ljava/lang/String;)V"⟩]
def hk (g : hG) (U : State) (H : Heap) : Prop :=
  va_K g.1 vwCl (hTY g.2.1) U ∧ vx_Zq Bundle.tN "UNASSIGNED_STACK" Bundle.steD (hA g) U H ∧ vx_Zq Bundle.tN "SUPPRESSED_SENTINEL" Bundle.listD (hA g) U H ∧ (∀ w ∈ wsL_law, w.before #[] U = true) ∧
  (∀ q ∈ hNF, va_Nw (.fieldLinkNest q.1 q.2.1 q.2.2.1 q.2.2.2.1 q.2.2.2.2 "HostKeyring") U) ∧ (∀ q ∈ hNM, va_Nw (.methodLinkNest q.1 q.2.1 q.2.2 "HostKeyring") U) ∧
  (∀ C ∈ [RX0, RX1, RX2, RX3], va_AO C U) ∧ (∀ q ∈ hStr, ∃ a, vk_R q.1 q.2.1 q.2.2 a U) ∧ (∀ E ∈ hEx, (Cond.castable E E).before #[] U = true) ∧ True ∧ (∀ y ∈ hDc, va_Nw (.declares y) U)
theorem hk_good : wsL_law.all goodWord = true := by decide +kernel
theorem hk_word {w : Cond} {g : hG} {U : State} {H : Heap} (h : hk g U H) (hw : w ∈ wsL_law) (args : Array Value) : w.before args U = true :=
  word_at (s := U) (U := U) (State.WarmedH.refl U) (good_of_word (List.all_eq_true.mp hk_good w hw)) (h.2.2.2.1 w hw)
theorem hk_moved {g : hG} {s U : State} {H H1 : Heap} (h : hk g s H) (hW : s.WarmedH U.vm) (ho : ∀ q : Nat, q < H.size → ¬ hA g q → H1[q]? = H[q]?) : hk g U H1 := by
  obtain ⟨h1, h2, h3, h4, h5, h6, h7, h8, h9, h10, h11⟩ := h
  refine ⟨va_K.moved hW.alike h1, vx_Zq.moved hW.alike (h2.kept ho), vx_Zq.moved hW.alike (h3.kept ho), fun w hw => word_at hW (good_of_word (List.all_eq_true.mp hk_good w hw)) (h4 w hw), fun q hq => va_Nw.warmF hW (h5 q hq), fun q hq => va_Nw.warmM hW (h6 q hq), fun C hC => va_AO.moved hW.alike (h7 C hC), fun q hq => ?_, fun E hE => h_castable_warm hW (h9 E hE), trivial, fun y hy => va_Nw.warmD hW (h11 y hy)⟩
  obtain ⟨a, ha⟩ := h8 q hq
  exact ⟨a, vk_R.warm hW ha⟩
/-- a call's start: the world, and what stays -/
def hPre (g : hG) (X : va_W) (S : hS) (av : List Value) : Array Value → State → Prop := va_Pc av (fun U => g.2.2 ≤ U.heap.size ∧ hw g X S U.heap ∧ hk g U U.heap)
theorem hPre_blind (g : hG) (X : va_W) (S : hS) (av : List Value) : FrameBlind (hPre g X S av) := by
  intro a U f mk h
  obtain ⟨h1, h0, h2, h3⟩ := h
  exact ⟨h1, h0, h2, hk_moved (U := U.calling f mk a) h3 (State.WarmedH.refl U) (fun _ _ _ => rfl)⟩
/-- a call's end: its answer and the pool behind it -/
def hQ (g : hG) (X : va_W) (post : Option Value → hS → Prop) : Array Value → State → Outcome → State → Prop := fun _ st oc t => (∃ (v : Option Value) (S' : hS), oc = .returned v ∧ post v S' ∧ hw g X S' t.heap) ∧ va_F (hA g) st t
/-- .. where it throws -/
def hXC (g : hG) (X : va_W) (px : String → hS → Prop) : String → State → State → Prop := fun E st t => ∃ S' : hS, px E S' ∧ hw g X S' t.heap ∧ va_F (hA g) st t
def hMet (l : Launch) (y : MethodName) (ws : List Cond) (rm : Room) (g : hG) (X : va_W) (S : hS) (av : List Value) (post : Option Value → hS → Prop) : Prop := Met l y ws rm (hPre g X S av) (hQ g X post) rm.cells rm.slots (hA g)
def hMetX (l : Launch) (y : MethodName) (ws : List Cond) (rm : Room) (g : hG) (X : va_W) (S : hS) (av : List Value) (post : Option Value → hS → Prop) (px : String → hS → Prop) : Prop := vx_Met l y ws rm (hPre g X S av) (hQ g X post) (hXC g X px) rm.cells rm.slots (hA g)
def hF (p : Program) (l : Launch) (s : State) (m : MethodId) (args : Array Value) (meth : Method) (c : Code) (cc : ByteArray) (nL : Nat) (ws : List Cond) (own : String) (g : hG) : Prop := CallFix p m c cc nL s args ws own ∧ hk g s s.heap ∧ meth.locks = false ∧ g.2.2 ≤ s.heap.size
/-- the walk's judgement: at pc, with these locals and this stack, over the pool S -/
def V (p : Program) (l : Launch) (e : Env) (R : Room) (s : State) (m : MethodId) (args : Array Value) (below : List Frame) (meth : Method) (c : Code) (nL : Nat) (g : hG) (X : va_W) (Q : State → Prop) (S : hS) (cells slots : Nat) (lv : List (Nat × Value)) (pc : Nat) (st : List Value) : Prop :=
  ∀ (H : Heap) (locs : List Loc) (ls : Array Slot), hw g X S H → va_S (hA g) s.heap H locs → lv_has ls nL lv → W p l e R s m args below meth c H locs cells slots Q (F0 m pc ls st)
/-- an exception of class E over the frame at pc -/
def VX (p : Program) (l : Launch) (e : Env) (R : Room) (s : State) (m : MethodId) (args : Array Value) (below : List Frame) (meth : Method) (c : Code) (nL : Nat) (g : hG) (X : va_W) (Q : State → Prop) (E : String) (S : hS) (cells slots : Nat) (lv : List (Nat × Value)) (pc : Nat) (st : List Value) : Prop :=
  ∀ (H : Heap) (locs : List Loc) (ls : Array Slot) (ce : Cell) (q : Addr), hw g X S H → va_S (hA g) s.heap H locs → lv_has ls nL lv → H[q]? = some ce → ce.vm = .none → s.vm.findClass E = some ce.cls → vx_W p l e R s m args below meth c H locs cells slots Q (F0 m pc ls st) q
section HFrame
variable {p : Program} {l : Launch} {e : Env} {R : Room} {s : State} {m : MethodId} {args : Array Value} {below : List Frame} {meth : Method} {c : Code} {nL : Nat} {g : hG} {X : va_W} {Q : State → Prop} {S : hS} {cells slots : Nat} {lv : List (Nat × Value)} {pc : Nat} {st rest : List Value} {cc : ByteArray} {Ts : List Cond} {own : String}
theorem hA_new {s : State} {g : hG} (h : g.2.2 ≤ s.heap.size) : ∀ q, s.heap.size ≤ q → hA g q := fun _ hq => Nat.le_trans h hq
/-! how a method begins -/
theorem h_start {y : MethodName} {ws ws' : List Cond} {rm : Room} {av : List Value} {post : Option Value → hS → Prop} {maxL : Nat} {ret : Option FieldType}
    (hy : plainName y.cls = true) (hws : ws = Cond.code y cc maxL ret :: ws') (hlen : (lg_sl av).length ≤ maxL)
    (body : ∀ (p : Program) (e : Env) (s : State) (m : MethodId) (args : Array Value) (below : List Frame) (meth : Method) (c : Code), hF p l s m args meth c cc maxL ws y.cls g → meth.sig.returnType = ret → meth.name = y.name →
      V p l e rm s m args below meth c maxL g X (MQ below (hQ g X post) args s rm.cells rm.slots (hA g)) S 0 0 (lv_args 0 av) 0 []) : hMet l y ws rm g X S av post := by
  refine Met.ofW (cc := cc) (maxL := maxL) (ret := ret) hy hws ?_
  intro p e s m args below meth c s₁ B hml hv
  obtain ⟨rfl, hz0, hwH, hkH⟩ := hv
  have hF9 : hF p l s m av.toArray meth c cc maxL ws y.cls g := ⟨⟨B.exec, B.bytes, hml, findClass_of_methodNamed B.named, atoms_spec (ws := ws) B.pre⟩, hkH, B.notSynchronized, hz0⟩
  rw [lg_entry_eq]
  exact body p e s m _ below meth c hF9 B.returns (name_of_methodNamed B.named B.method).1 s.heap [] _ hwH va_S.rf (lv_entry av hlen)
theorem h_startX {y : MethodName} {ws ws' : List Cond} {rm : Room} {av : List Value} {post : Option Value → hS → Prop} {px : String → hS → Prop} {maxL : Nat} {ret : Option FieldType}
    (hy : plainName y.cls = true) (hws : ws = Cond.code y cc maxL ret :: ws') (hlen : (lg_sl av).length ≤ maxL)
    (body : ∀ (p : Program) (e : Env) (s : State) (m : MethodId) (args : Array Value) (below : List Frame) (meth : Method) (c : Code), hF p l s m args meth c cc maxL ws y.cls g → meth.sig.returnType = ret → (∀ x ∈ c.exceptionTable.toList, False) →
      V p l e rm s m args below meth c maxL g X (vx_MQ below (hQ g X post) (hXC g X px) args s rm.cells rm.slots (hA g)) S 0 0 (lv_args 0 av) 0 []) : hMetX l y ws rm g X S av post px := by
  refine vx_ofW (cc := cc) (maxL := maxL) (ret := ret) hy hws ?_
  intro p e s m args below meth c s₁ B hml ht hv
  obtain ⟨rfl, hz0, hwH, hkH⟩ := hv
  have hF9 : hF p l s m av.toArray meth c cc maxL ws y.cls g := ⟨⟨B.exec, B.bytes, hml, findClass_of_methodNamed B.named, atoms_spec (ws := ws) B.pre⟩, hkH, B.notSynchronized, hz0⟩
  rw [lg_entry_eq]
  exact body p e s m _ below meth c hF9 B.returns ht s.heap [] _ hwH va_S.rf (lv_entry av hlen)
/-! how it ends -/
theorem h_endQ {H : Heap} {locs : List Loc} {post : Option Value → hS → Prop} {v : Option Value} (hS0 : va_S (hA g) s.heap H locs) (hw0 : hw g X S H) (h : post v S) : ∀ t : State, t.heap = H → s.WarmedH t.vm → hQ g X post args s (.returned v) t :=
  fun t ht _ => ⟨⟨v, S, rfl, h, by rw [ht]; exact hw0⟩, hS0.F ht⟩
theorem q_reti {ty : FieldType} {v : Int32} {post : Option Value → hS → Prop} {mc ms : Nat} (F : hF p l s m args meth c cc nL Ts own g) (hr : meth.sig.returnType = some ty) (hn : narrow ty (.int v) = .int v) (d : decode cc pc = .ok (.ireturn, 1)) (hc : cells ≤ mc) (hs : slots ≤ ms) (h : post (some (.int v)) S) :
    V p l e R s m args below meth c nL g X (MQ below (hQ g X post) args s mc ms (hA g)) S cells slots lv pc [.int v] := fun H locs ls hw0 hS0 _ =>
  W.widen hc hs (W.zret F.1.1 F.1.2.1 hr hn (h_endQ hS0 hw0 h) hS0.2.2 d F.2.2.1)
theorem q_retv {post : Option Value → hS → Prop} {mc ms : Nat} (F : hF p l s m args meth c cc nL Ts own g) (hr : meth.sig.returnType = none) (d : decode cc pc = .ok (.return_, 1)) (hc : cells ≤ mc) (hs : slots ≤ ms) (h : post none S) :
    V p l e R s m args below meth c nL g X (MQ below (hQ g X post) args s mc ms (hA g)) S cells slots lv pc [] := fun H locs ls hw0 hS0 _ =>
  W.widen hc hs (W.vret F.1.1 F.1.2.1 hr (h_endQ hS0 hw0 h) hS0.2.2 d F.2.2.1)
theorem q_retl {v : Int64} {post : Option Value → hS → Prop} {mc ms : Nat} (F : hF p l s m args meth c cc nL Ts own g) (hr : meth.sig.returnType = some .long) (d : decode cc pc = .ok (.lreturn, 1)) (hc : cells ≤ mc) (hs : slots ≤ ms) (h : post (some (.long v)) S) :
    V p l e R s m args below meth c nL g X (MQ below (hQ g X post) args s mc ms (hA g)) S cells slots lv pc [.long v] := fun H locs ls hw0 hS0 _ =>
  W.widen hc hs (W.lret F.1.1 F.1.2.1 hr (h_endQ hS0 hw0 h) hS0.2.2 d F.2.2.1)
theorem q_reta {ty : FieldType} {v : Value} {post : Option Value → hS → Prop} {mc ms : Nat} (F : hF p l s m args meth c cc nL Ts own g) (hr : meth.sig.returnType = some ty) (hty : (∃ n, ty = .object n) ∨ ∃ t, ty = .array t) (hv : v = .null ∨ ∃ a, v = .ref a) (d : decode cc pc = .ok (.areturn, 1)) (hc : cells ≤ mc) (hs : slots ≤ ms) (h : post (some v) S) :
    V p l e R s m args below meth c nL g X (MQ below (hQ g X post) args s mc ms (hA g)) S cells slots lv pc [v] := fun H locs ls hw0 hS0 _ =>
  W.widen hc hs (W.aret F.1.1 F.1.2.1 hr hty hv (h_endQ hS0 hw0 h) hS0.2.2 d F.2.2.1)
/-- the same ends, where the method may also throw -/
theorem q_x {post : Option Value → hS → Prop} {px : String → hS → Prop} {mc ms : Nat} (k : V p l e R s m args below meth c nL g X (MQ below (hQ g X post) args s mc ms (hA g)) S cells slots lv pc st) :
    V p l e R s m args below meth c nL g X (vx_MQ below (hQ g X post) (hXC g X px) args s mc ms (hA g)) S cells slots lv pc st := fun H locs ls hw0 hS0 hl => vx_ret (k H locs ls hw0 hS0 hl)
/-- an exception that no row of the table takes goes on to the caller -/
theorem q_out {E : String} {post : Option Value → hS → Prop} {px : String → hS → Prop} {mc ms : Nat} (F : hF p l s m args meth c cc nL Ts own g) (ht : ∀ x ∈ c.exceptionTable.toList, False) (hc : cells ≤ mc) (hs : slots ≤ ms) (h : px E S) :
    VX p l e R s m args below meth c nL g X (vx_MQ below (hQ g X post) (hXC g X px) args s mc ms (hA g)) E S cells slots lv pc st := fun H locs ls ce q hw0 hS0 _ h1 h2 h3 =>
  vx_out (fun x hx => (ht x hx).elim) F.2.2.1 h1 h2 h3 (fun t ht9 _ => ⟨S, h, by rw [ht9]; exact hw0, hS0.F ht9⟩) hS0.2.2 hc hs
theorem q_widen {k n : Nat} (hc : cells ≤ k) (hs : slots ≤ n) (kk : V p l e R s m args below meth c nL g X Q S k n lv pc st) : V p l e R s m args below meth c nL g X Q S cells slots lv pc st := fun H locs ls hw0 hS0 hl => W.widen hc hs (kk H locs ls hw0 hS0 hl)
/-- fewer locals, in another order -/
theorem q_lv {lv' : List (Nat × Value)} (h : ∀ q ∈ lv', q ∈ lv) (kk : V p l e R s m args below meth c nL g X Q S cells slots lv' pc st) : V p l e R s m args below meth c nL g X Q S cells slots lv pc st := fun H locs ls hw0 hS0 hl =>
  kk H locs ls hw0 hS0 ⟨hl.1, hl.2.1, fun q hq => hl.2.2 q (h q hq)⟩
theorem q_lvs (ks : List Nat) {lv' : List (Nat × Value)} (h : lv_pick lv ks = lv') (kk : V p l e R s m args below meth c nL g X Q S cells slots lv' pc st) : V p l e R s m args below meth c nL g X Q S cells slots lv pc st := fun H locs ls hw0 hS0 hl =>
  kk H locs ls hw0 hS0 (lv_sub hl ks h)
/-! calls -/
theorem h_call {H : Heap} {locs : List Loc} {ls : Array Slot} {st0 : List Value} {mc ms : Nat} {a : Array Value} {post : Option Value → hS → Prop}
    (hr : va_Run p l e R s m args below meth c H locs cells slots mc ms (F0 m pc ls st0) rest (hQ g X post a) (hA g)) (hS0 : va_S (hA g) s.heap H locs)
    (kk : ∀ (v : Option Value) (S' : hS) (H1 : Heap) (locs1 : List Loc), post v S' → hw g X S' H1 → va_S (hA g) s.heap H1 locs1 → W p l e R s m args below meth c H1 locs1 (cells + mc) (slots + ms) Q (F0 m (pc + 3) ls (v.toList ++ rest))) : W p l e R s m args below meth c H locs cells slots Q (F0 m pc ls st0) := by
  intro T hT X9
  obtain ⟨v, st₀, t, T', L, h0, X', hL, e1, e2, ⟨⟨v', S', hv, hp, hb⟩, hF9⟩, st⟩ := hr T hT X9
  cases hv
  obtain ⟨k1, k2, k3⟩ := vx_keep h0 e1 hS0 (fun _ _ h => h) (fun _ h => h) hL hF9
  obtain ⟨t2, a1, b1⟩ := kk v S' T'.heap (locs ++ L) hp (by rw [e1]; exact hb) k3 T' rfl X'
  exact ⟨t2, st t2 a1, b1⟩
theorem h_callX {H : Heap} {locs : List Loc} {ls : Array Slot} {st0 : List Value} {mc ms : Nat} {a : Array Value} {post : Option Value → hS → Prop} {px : String → hS → Prop}
    (hr : vx_Run p l e R s m args below meth c H locs cells slots mc ms (F0 m pc ls st0) rest (hQ g X post a) (hXC g X px) (hA g)) (hS0 : va_S (hA g) s.heap H locs)
    (kx : ∀ (E : String) (S' : hS) (H1 : Heap) (locs1 : List Loc) (ce : Cell) (q : Addr), px E S' → hw g X S' H1 → va_S (hA g) s.heap H1 locs1 → H1[q]? = some ce → ce.vm = .none → s.vm.findClass E = some ce.cls → vx_W p l e R s m args below meth c H1 locs1 (cells + mc) (slots + ms) Q (F0 m pc ls rest) q)
    (kk : ∀ (v : Option Value) (S' : hS) (H1 : Heap) (locs1 : List Loc), post v S' → hw g X S' H1 → va_S (hA g) s.heap H1 locs1 → W p l e R s m args below meth c H1 locs1 (cells + mc) (slots + ms) Q (F0 m (pc + 3) ls (v.toList ++ rest))) : W p l e R s m args below meth c H locs cells slots Q (F0 m pc ls st0) := by
  intro T hT X9
  rcases hr T hT X9 with ⟨v, st₀, t, T', L, h0, X', hL, e1, e2, ⟨⟨v', S', hv, hp, hb⟩, hF9⟩, st⟩ | ⟨q, st₀, t, T', L, E, ce, h0, X', hL, e1, e2, ⟨S', hp, hb, hF9⟩, hce, hcv, hcl, st⟩
  · cases hv
    obtain ⟨k1, k2, k3⟩ := vx_keep h0 e1 hS0 (fun _ _ h => h) (fun _ h => h) hL hF9
    obtain ⟨t2, a1, b1⟩ := kk v S' T'.heap (locs ++ L) hp (by rw [e1]; exact hb) k3 T' rfl X'
    exact ⟨t2, st t2 a1, b1⟩
  · obtain ⟨k1, k2, k3⟩ := vx_keep h0 e1 hS0 (fun _ _ h => h) (fun _ h => h) hL hF9
    obtain ⟨t2, a1, b1⟩ := kx E S' T'.heap (locs ++ L) ce q hp (by rw [e1]; exact hb) k3 (by rw [e1]; exact hce) hcv hcl T' rfl X'
    exact ⟨t2, st.trans a1, b1⟩
theorem h_preS {H : Heap} {locs : List Loc} {av : List Value} (hz : g.2.2 ≤ s.heap.size) (hk0 : hk g s s.heap) (hw0 : hw g X S H) (hS0 : va_S (hA g) s.heap H locs) : PreS s H (hPre g X S av) av :=
  ⟨hPre_blind g X S av, fun U hU hW => ⟨rfl, by rw [hU]; exact Nat.le_trans hz hS0.1, by rw [hU]; exact hw0, hk_moved hk0 hW (by rw [hU]; exact hS0.2.1)⟩⟩
theorem h_preV {H : Heap} {locs : List Loc} {As : List Value} {b ci N : Nat} {C : String} {T : u_T} (hz : g.2.2 ≤ s.heap.size) (hk0 : hk g s s.heap) (hw0 : hw g X S H) (hS0 : va_S (hA g) s.heap H locs) (hb : isO S b ci) (hc : vwCl[ci]? = some (C, T, N)) : PreV s H C b (hPre g X S (.ref b :: As)) As := by
  refine ⟨hPre_blind g X S _, ?_, (h_preS hz hk0 hw0 hS0).2⟩
  obtain ⟨i, -, hi⟩ := hw_get (g := g) (X := X) hb
  match ci, hc with
  | 0, hc => cases hc; exact va_recv hk0.1 hw0.1 (ci := 0) (q := (RX0, TX0, 7)) rfl hi
  | 1, hc => cases hc; exact va_recv hk0.1 hw0.1 (ci := 1) (q := (RX1, TX1, 10)) rfl hi
  | 2, hc => cases hc; exact va_recv hk0.1 hw0.1 (ci := 2) (q := (RX2, TX2, 4)) rfl hi
  | 3, hc => cases hc; exact va_recv hk0.1 hw0.1 (ci := 3) (q := (RX3, TX3, 3)) rfl hi
  | 4, hc => cases hc; exact va_recv hk0.1 hw0.1 (ci := 4) (q := (RX4, TX4, 12)) rfl hi
  | n + 5, hc => simp [vwCl] at hc
end HFrame

