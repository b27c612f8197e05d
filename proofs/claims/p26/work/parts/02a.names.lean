/-! ===== BEGIN words of one list among another's, by their places ===== -/
theorem goodIn_r {big : List Cond} (ws : List Cond) (ps : List Nat) (hp : ws = ps.filterMap (fun i => big[i]?)) (h : ws.all goodWord = true) : GoodIn big ws := by
  intro w hw
  have h1 := List.all_eq_true.mp h w hw
  rw [hp] at hw
  obtain ⟨i, -, hi⟩ := List.mem_filterMap.mp hw
  have hm : w ∈ big := by first | exact List.mem_of_getElem? hi | exact List.getElem?_mem hi
  exact ⟨hm, good_of_word h1⟩
theorem goodIn_app {big a b : List Cond} (ha : GoodIn big a) (hb : GoodIn big b) : GoodIn big (a ++ b) := fun w h => (List.mem_append.mp h).elim (ha w) (hb w)
theorem goodIn_ca {big a b : List Cond} {c : Cond} (ha : GoodIn big (c :: a)) (hb : GoodIn big b) : GoodIn big (c :: (a ++ b)) := fun w h => (List.mem_cons.mp h).elim (fun e => ha w (List.mem_cons.mpr (Or.inl e))) (fun h => (List.mem_append.mp h).elim (fun h => ha w (List.mem_cons.mpr (Or.inr h))) (hb w))
theorem goodIn_sub {big ws : List Cond} (hm : ∀ w ∈ ws, w ∈ big) (h : ws.all goodWord = true) : GoodIn big ws := fun w hw => ⟨hm w hw, good_of_word (List.all_eq_true.mp h w hw)⟩
/-! ===== END ===== -/

/-! ===== BEGIN exceptions that leave a method, and their catching by the caller (launches without stack traces) ===== -/
section VXA
/-! The laws vx_back, vx_callV, vx_callS, vx_callSW, vx_throw0, vx_throwS follow proofs of the library, with one case more: JvmDerived/Free/Laws.lean (Back.of_free), Shelf42/LK1.lean (callV, callS), Shelf/KitTraced.lean (throwNew0V, throwNewS). -/
/-- where a method has thrown q: the class by its name, the cell, what was written, the world -/
def vx_T (XC : String → State → State → Prop) (st : State) (q : Addr) (t : State) (mc ms : Nat) (free : Addr → Prop) : Prop :=
  ∃ (E : String) (ce : Cell) (L : List Loc), XC E st t ∧ t.heap[q]? = some ce ∧ ce.vm = .none ∧ st.vm.findClass E = some ce.cls ∧ st.WarmedH t.vm ∧ st.sameButNew ({ t with vm := st.vm } : State) L mc ms ∧ ∀ z ∈ L, free z.base
def vx_Q (Qc : Array Value → State → Outcome → State → Prop) (XC : String → State → State → Prop) (mc ms : Nat) (free : Addr → Prop) : Array Value → State → Outcome → State → Prop := fun a st o t =>
  (Qc a st o t ∧ ∃ L, FrameEnd st o t L mc ms ∧ ∀ q ∈ L, free q.base) ∨ ∃ q, o = .threw q ∧ vx_T XC st q t mc ms free
/-- a callee that returns or throws -/
def vx_Met (l : Launch) (y : MethodName) (ws : List Cond) (rm : Room) (Pc : Array Value → State → Prop) (Qc : Array Value → State → Outcome → State → Prop) (XC : String → State → State → Prop) (mc ms : Nat) (free : Addr → Prop) : Prop :=
  MetFree l y (headSpec ws rm) Pc (fun _ _ _ _ _ => True) (vx_Q Qc XC mc ms free)
def vx_Post (XC : String → State → State → Prop) (mc ms : Nat) (free : Addr → Prop) : Pt → Array Value → Addr → Pt → Prop := fun A a q B =>
  ∃ (g : JFrame) (mk : MethodId) (t : State) (L : List Loc) (E : String) (ce : Cell), B.U.heap = t.heap ∧ B.U.vm = t.vm ∧ XC E (A.U.calling g mk a) t ∧ t.heap[q]? = some ce ∧ ce.vm = .none ∧ A.U.vm.findClass E = some ce.cls ∧ B.locs = A.locs ++ L ∧ (∀ z ∈ L, free z.base) ∧ B.cells = A.cells + mc ∧ B.slots = A.slots + ms
def vx_Back (l : Launch) (R : Room) (p : Program) (e : Env) (below : List Frame) (s : State) (sargs : Array Value) (y : MethodName) (len W9 : Nat)
    (Pre : Pt → Array Value → Prop) (Post : Pt → Array Value → Option Value → Pt → Prop) (PostX : Pt → Array Value → Addr → Pt → Prop) : Prop :=
  ∀ (m : MethodId) (meth : Method) (c : Code) (A : Pt) (g : JFrame) (ig : Instr) (mk : MethodId) (a : Array Value),
    Stand p l e R s m sargs below meth c A.U A.locs A.cells A.slots → g.method = m → g.locals.size = c.maxLocals → decode c.code g.pc = .ok (ig, len) →
    2 * g.monitorRoom + (g.stack.map fun v => v.category).sum ≤ W9 → A.U.methodNamed? y = some mk → Pre A a →
    (∃ (v : Option Value) (B : Pt), Stand p l e R s m sargs below meth c B.U B.locs B.cells B.slots ∧ Post A a v B ∧
      Steps p.tables e below (doInvoke e (A.U.setTop g) [] mk a).1 (B.U.setTop { g with pc := g.pc + len, stack := v.toList ++ g.stack })) ∨
    (∃ (q : Addr) (B : Pt), Stand p l e R s m sargs below meth c B.U B.locs B.cells B.slots ∧ PostX A a q B ∧
      Steps p.tables e below (doInvoke e (A.U.setTop g) [] mk a).1 ((B.U.setTop g).pushFrame (.throwing q)))
section Payer
variable {l : Launch} {R : Room} {p : Program} {e : Env} {below : List Frame} {s : State} {sargs : Array Value} {y : MethodName} {len W9 : Nat}
theorem vx_back {ws : List Cond} {rm : Room} {Pc : Array Value → State → Prop} {Qc : Array Value → State → Outcome → State → Prop} {XC : String → State → State → Prop} {mc ms : Nat} {free : Addr → Prop} {bytes : ByteArray} {maxL : Nat} {ret : Option FieldType}
    (hM : vx_Met l y ws rm Pc Qc XC mc ms free) (hblind : FrameBlind Pc) (hrc : rm.cells = mc) (hrs : rm.slots = ms)
    (hframes : rm.frames + 1 ≤ R.frames) (hlocals : W9 + (maxL + 11) + rm.locals ≤ R.locals)
    (hws : ∀ w ∈ ws, ∀ a' U, s.WarmedH U.vm → w.before a' U = true) (hcode : Cond.code y bytes maxL ret ∈ ws) (hinit : ∀ a' U, s.WarmedH U.vm → (Cond.initialized y.cls).before a' U = true) :
    vx_Back l R p e below s sargs y len W9 (PreOf R mc ms Pc) (PostOf Qc mc ms free) (vx_Post XC mc ms free) := by
  intro m meth c A g ig mk a X hg hsize hdg hW hn hp
  have h1 : (headSpec ws rm).pre.before a A.U = true := atoms_intro fun w hw => hws w hw _ _ X.warmed
  have h2 : (Cond.code y bytes maxL ret).before a A.U = true := hws _ hcode _ _ X.warmed
  have h3 : (Cond.initialized y.cls).before a A.U = true := hinit _ _ X.warmed
  have h4 : A.cells + (headSpec ws rm).room.cells ≤ R.cells := by rw [show (headSpec ws rm).room.cells = mc from hrc]; exact hp.1
  have h5 : A.slots + (headSpec ws rm).room.slots ≤ R.slots := by rw [show (headSpec ws rm).room.slots = ms from hrs]; exact hp.2.1
  have hPc : Pc a (A.U.calling g mk a) := hblind _ _ _ _ hp.2.2
  obtain ⟨U, Ls, c0, s0⟩ := A
  dsimp only [Pt.U, Pt.locs, Pt.cells, Pt.slots] at h1 h2 h3 h4 h5 X hn hPc ⊢
  obtain ⟨methY, cY, hmY, hcY, -, hlY, -, -, -, -⟩ := Cond.code_spec hn h2
  obtain ⟨kY, hkY, -⟩ := className_of_methodNamed hn
  have hinitY : kY.init = .initialized := Cond.initialized_spec (findClass_of_methodNamed hn) hkY h3
  have h : At U g.method c below := by rw [hg]; exact X.here
  have hlocals9 : W9 + (maxL + 11) + (headSpec ws rm).room.locals ≤ R.locals := hlocals
  have happ : (headSpec ws rm).appliesLoose y e.platform (U.calling g mk a) = true :=
    Spec.appliesLoose_calling (g := g) h hdg hn hkY hinitY
      (X.room_calling (g := g) (R' := (headSpec ws rm).room) hsize hmY hcY hframes (by rw [hlY]; omega) h4 h5) h1
  obtain ⟨mid, hmid⟩ := h.above
  have hfr : (U.setTop g).frames = (.java g :: mid) ++ below := by rw [State.frames_setTop' g h.top, hmid]; rfl
  obtain ⟨o, s₂, hsteps, -, hend, hq⟩ := Steps.callFree hM p X.admits X.cas X.clock (acts := []) hfr happ hPc trivial
  have hq' : vx_Q Qc XC mc ms free a (U.calling g mk a) o s₂ := hq
  rw [State.frames_setTop' g h.top] at hend
  obtain ⟨g₀, hg0⟩ := Option.isSome_iff_exists.mp h.top
  obtain ⟨r, hr⟩ := State.topJava?_eq_some.mp hg0
  have hr' : (({ U with heap := s₂.heap, slotsUsed := s₂.slotsUsed } : State).setVm s₂.vm).frames = .java g₀ :: r := hr
  rcases hq' with ⟨hqc, L, hfe, hL⟩ | ⟨q, rfl, E, ce, L, hx, hce, hcv, hcl, hW₂, hsm, hL⟩
  · obtain ⟨⟨v, rfl⟩, hW₂, e2, q2, q3, q4, q5, q6⟩ := id hfe
    have e3 : s₂ = ({ (U.calling g mk a).setFrames s₂.frames with heap := s₂.heap, slotsUsed := s₂.slotsUsed } : State).setVm s₂.vm := by
      have : s₂ = ({ s₂ with vm := (U.calling g mk a).vm } : State).setVm s₂.vm := rfl
      rw [e2] at this
      exact this
    obtain ⟨c₂, i₂, len₂, hc₂, hd₂, hf₂⟩ := hend
    have hW' : U.WarmedH s₂.vm := hW₂
    have hcc : c₂ = c := by
      have h1 : s₂.code? g.method = U.code? g.method := by
        rw [State.code?_eq, State.code?_eq, hW'.alike.method?]
      exact Option.some.inj (hc₂.symm.trans (h1.trans h.code))
    subst hcc
    have hlen : len₂ = len := by rw [hdg] at hd₂; cases hd₂; rfl
    subst hlen
    have hs₂ : s₂ = (({ U with heap := s₂.heap, slotsUsed := s₂.slotsUsed } : State).setVm s₂.vm).setTop { g with pc := g.pc + len₂, stack := v.toList ++ g.stack } := by
      refine e3.trans ?_
      rw [hf₂, State.calling_eq h.top, State.setFrames_setFrames, State.setTop_of_frames _ hr', hr]
      rfl
    have hsame : U.sameButNew ({ U with heap := s₂.heap, slotsUsed := s₂.slotsUsed } : State) L mc ms := by
      refine ⟨?_, q2, q3, q4, q5, q6⟩
      obtain ⟨t, ht, -⟩ := State.frames_cons hr
      show ({ U with heap := s₂.heap, slotsUsed := s₂.slotsUsed } : State) = { U.setFrames U.frames with heap := s₂.heap, slotsUsed := s₂.slotsUsed }
      rw [State.setFrames_self ht]
    subst hg
    refine Or.inl ⟨v, ⟨(({ U with heap := s₂.heap, slotsUsed := s₂.slotsUsed } : State).setVm s₂.vm), Ls ++ L, c0 + mc, s0 + ms⟩,
      ⟨X.admits, X.cas, X.clock, X.frames, X.room, X.hears, X.method, X.code, (X.here.setHeapUsed s₂.heap s₂.slotsUsed).setVm hW'.alike, X.tail, State.WarmedH.trans X.warmed hW', X.limits, X.bytes, X.same.trans (hsame.setVm s.vm)⟩,
      ⟨g, mk, s₂, L, rfl, rfl, hqc, rfl, hL, rfl, rfl⟩, ?_⟩
    show Steps p.tables e below _ ((({ U with heap := s₂.heap, slotsUsed := s₂.slotsUsed } : State).setVm s₂.vm).setTop { g with pc := g.pc + len₂, stack := v.toList ++ g.stack })
    rw [← hs₂]
    exact hsteps
  · obtain ⟨e2, q2, q3, q4, q5, q6⟩ := id hsm
    have e3 : s₂ = ({ (U.calling g mk a).setFrames s₂.frames with heap := s₂.heap, slotsUsed := s₂.slotsUsed } : State).setVm s₂.vm := by
      have : s₂ = ({ s₂ with vm := (U.calling g mk a).vm } : State).setVm s₂.vm := rfl
      rw [e2] at this
      exact this
    have hf₂ : s₂.frames = .throwing q :: .java g :: U.frames.tail := hend
    have hW' : U.WarmedH s₂.vm := hW₂
    have hs₂ : s₂ = ((({ U with heap := s₂.heap, slotsUsed := s₂.slotsUsed } : State).setVm s₂.vm).setTop g).pushFrame (.throwing q) := by
      refine e3.trans ?_
      rw [hf₂, State.calling_eq h.top, State.setFrames_setFrames, State.pushFrame, State.frames_setTop _ hr', State.setTop_of_frames _ hr', State.setFrames_setFrames, hr]
      rfl
    have hsame : U.sameButNew ({ U with heap := s₂.heap, slotsUsed := s₂.slotsUsed } : State) L mc ms := by
      refine ⟨?_, q2, q3, q4, q5, q6⟩
      obtain ⟨t, ht, -⟩ := State.frames_cons hr
      show ({ U with heap := s₂.heap, slotsUsed := s₂.slotsUsed } : State) = { U.setFrames U.frames with heap := s₂.heap, slotsUsed := s₂.slotsUsed }
      rw [State.setFrames_self ht]
    subst hg
    refine Or.inr ⟨q, ⟨(({ U with heap := s₂.heap, slotsUsed := s₂.slotsUsed } : State).setVm s₂.vm), Ls ++ L, c0 + mc, s0 + ms⟩,
      ⟨X.admits, X.cas, X.clock, X.frames, X.room, X.hears, X.method, X.code, (X.here.setHeapUsed s₂.heap s₂.slotsUsed).setVm hW'.alike, X.tail, State.WarmedH.trans X.warmed hW', X.limits, X.bytes, X.same.trans (hsame.setVm s.vm)⟩,
      ⟨g, mk, s₂, L, E, ce, rfl, rfl, hx, hce, hcv, hcl, rfl, hL, rfl, rfl⟩, ?_⟩
    show Steps p.tables e below _ (((({ U with heap := s₂.heap, slotsUsed := s₂.slotsUsed } : State).setVm s₂.vm).setTop g).pushFrame (.throwing q))
    rw [← hs₂]
    exact hsteps
end Payer
section Calls
variable {p : Program} {l : Launch} {e : Env} {R : Room} {s : State} {m : MethodId} {args : Array Value} {below : List Frame} {meth : Method} {c : Code} {T : State} {locs : List Loc} {cells slots : Nat}
theorem vx_callV (X : Stand p l e R s m args below meth c T locs cells slots) (hexec : p.tables.exec = Jvm.exec) {own C : String} {index : Nat} {y : MethodName} {bytes : ByteArray} {maxL : Nat} {ret : Option FieldType}
    (hown : s.vm.findClass own = some m.cls) (hlink : (Cond.methodLink own index y).before args s = true) (hinst : (Cond.instanceMethod y).before args s = true) (hsel : (Cond.selects C y y).before args s = true)
    (hcode : (Cond.code y bytes maxL ret).before args s = true) (hy : y.cls ≠ "java/lang/invoke/MethodHandle" ∧ y.cls ≠ "java/lang/invoke/VarHandle")
    {W9 : Nat} {Pre : Pt → Array Value → Prop} {Post : Pt → Array Value → Option Value → Pt → Prop} {PostX : Pt → Array Value → Addr → Pt → Prop} (hK : vx_Back l R p e below s args y 3 W9 Pre Post PostX)
    {b : Addr} {cellB : Cell} (hcell : T.heap[b]? = some cellB) (hobj : cellB.vm.isStatics = false) (hcls : s.vm.findClass C = some cellB.cls)
    {g : JFrame} (hg : g.method = m) (hsize : g.locals.size = c.maxLocals) {argsL rest : List Value} (hlen : ∀ sig, parseMethodDescriptor y.desc = some sig → argsL.length = sig.parameters.length)
    (hstack : g.stack = argsL.reverse ++ .ref b :: rest) (hW : 2 * g.monitorRoom + (rest.map fun v => v.category).sum ≤ W9) (hdg : decode c.code g.pc = .ok (.invokevirtual index, 3))
    (hpre : ∀ vm₁, s.WarmedH vm₁ → Pre ⟨T.setVm vm₁, locs, cells, slots⟩ (Value.ref b :: argsL).toArray) :
    (∃ (v : Option Value) (vm₁ : Vm) (B : Pt), s.WarmedH vm₁ ∧ Stand p l e R s m args below meth c B.U B.locs B.cells B.slots ∧ Post ⟨T.setVm vm₁, locs, cells, slots⟩ (Value.ref b :: argsL).toArray v B ∧
      ∀ target, Steps p.tables e below (B.U.setTop { g with pc := g.pc + 3, stack := v.toList ++ rest }) target → Steps p.tables e below (T.setTop g) target) ∨
    (∃ (q : Addr) (vm₁ : Vm) (B : Pt), s.WarmedH vm₁ ∧ Stand p l e R s m args below meth c B.U B.locs B.cells B.slots ∧ PostX ⟨T.setVm vm₁, locs, cells, slots⟩ (Value.ref b :: argsL).toArray q B ∧
      Steps p.tables e below (T.setTop g) ((B.U.setTop { g with stack := rest }).pushFrame (.throwing q))) := by
  obtain ⟨mk, methM, hnamed, hmethM, hstM, habM⟩ := Cond.instanceMethod_spec hinst
  obtain ⟨methM', cM, hmethM', -, -, -, -, -, -, hsigM⟩ := Cond.code_spec hnamed hcode
  cases hmethM.symm.trans hmethM'
  obtain ⟨c2, r2, m2, q1, q2, q3, q4, kP, hkP, hkPi⟩ := Cond.selects_spec hsel
  cases hcls.symm.trans q1
  cases (State.methodFound?_of_named hnamed hy).symm.trans q2
  cases hnamed.symm.trans q3
  have hselP : selectMethod e.platform s.vm cellB.cls mk = .method mk := by rw [Launch.admits_selectMethod X.admits]; exact q4
  obtain ⟨vm₁, X₁, hstep₁⟩ := X.invokevirtual hexec hown hlink hnamed hmethM hstM hkP hkPi hy (a := b) (cell := cellB) hcell
    (fun z h => by rw [h] at hobj; cases hobj) hselP hmethM habM hkP hkPi (g := g) hg (argsL := argsL) (rest := rest) (hlen _ hsigM) hstack hdg
  rcases hK m meth c ⟨T.setVm vm₁, locs, cells, slots⟩ { g with stack := rest } (.invokevirtual index) mk (Value.ref b :: argsL).toArray X₁ hg hsize hdg hW (X₁.named hnamed) (hpre vm₁ X₁.warmed) with ⟨v, B, X', hpost, hsteps⟩ | ⟨q, B, X', hpost, hsteps⟩
  · exact Or.inl ⟨v, vm₁, B, X₁.warmed, X', hpost, fun target h => hstep₁ _ fun acts => by rw [doInvoke_state]; exact hsteps.trans h⟩
  · exact Or.inr ⟨q, vm₁, B, X₁.warmed, X', hpost, hstep₁ _ fun acts => by rw [doInvoke_state]; exact hsteps⟩
theorem vx_callS (X : Stand p l e R s m args below meth c T locs cells slots) (hexec : p.tables.exec = Jvm.exec) {own : String} {index : Nat} {y : MethodName} {bytes : ByteArray} {maxL : Nat} {ret : Option FieldType}
    (hown : s.vm.findClass own = some m.cls) (hlink : (Cond.methodLink own index y).before args s = true) (hstat : (Cond.static y).before args s = true) (hinit : (Cond.initialized y.cls).before args s = true)
    (hcode : (Cond.code y bytes maxL ret).before args s = true) (hy : y.cls ≠ "java/lang/invoke/MethodHandle" ∧ y.cls ≠ "java/lang/invoke/VarHandle")
    {W9 : Nat} {Pre : Pt → Array Value → Prop} {Post : Pt → Array Value → Option Value → Pt → Prop} {PostX : Pt → Array Value → Addr → Pt → Prop} (hK : vx_Back l R p e below s args y 3 W9 Pre Post PostX)
    {g : JFrame} (hg : g.method = m) (hsize : g.locals.size = c.maxLocals) {argsL rest : List Value} (hlen : ∀ sig, parseMethodDescriptor y.desc = some sig → argsL.length = sig.parameters.length)
    (hstack : g.stack = argsL.reverse ++ rest) (hW : 2 * g.monitorRoom + (rest.map fun v => v.category).sum ≤ W9) (hdg : decode c.code g.pc = .ok (.invokestatic index, 3))
    (hpre : ∀ vm₁, s.WarmedH vm₁ → Pre ⟨T.setVm vm₁, locs, cells, slots⟩ argsL.toArray) :
    (∃ (v : Option Value) (vm₁ : Vm) (B : Pt), s.WarmedH vm₁ ∧ Stand p l e R s m args below meth c B.U B.locs B.cells B.slots ∧ Post ⟨T.setVm vm₁, locs, cells, slots⟩ argsL.toArray v B ∧
      ∀ target, Steps p.tables e below (B.U.setTop { g with pc := g.pc + 3, stack := v.toList ++ rest }) target → Steps p.tables e below (T.setTop g) target) ∨
    (∃ (q : Addr) (vm₁ : Vm) (B : Pt), s.WarmedH vm₁ ∧ Stand p l e R s m args below meth c B.U B.locs B.cells B.slots ∧ PostX ⟨T.setVm vm₁, locs, cells, slots⟩ argsL.toArray q B ∧
      Steps p.tables e below (T.setTop g) ((B.U.setTop { g with stack := rest }).pushFrame (.throwing q))) := by
  obtain ⟨mk, hnamed⟩ := Cond.code_named hcode
  obtain ⟨methM, cM, hmethM, -, -, -, -, -, -, hsigM⟩ := Cond.code_spec hnamed hcode
  have hstatic : methM.isStatic = true := Cond.static_spec hnamed hmethM hstat
  obtain ⟨kP, hkP, -⟩ := className_of_methodNamed hnamed
  have hinitP : kP.init = .initialized := Cond.initialized_spec (findClass_of_methodNamed hnamed) hkP hinit
  obtain ⟨vm₁, X₁, hstep₁⟩ := X.invokestatic hexec hown hlink hnamed hmethM hstatic hkP hinitP hy (g := g) hg (argsL := argsL) (rest := rest) (hlen _ hsigM) hstack hdg
  rcases hK m meth c ⟨T.setVm vm₁, locs, cells, slots⟩ { g with stack := rest } (.invokestatic index) mk argsL.toArray X₁ hg hsize hdg hW (X₁.named hnamed) (hpre vm₁ X₁.warmed) with ⟨v, B, X', hpost, hsteps⟩ | ⟨q, B, X', hpost, hsteps⟩
  · exact Or.inl ⟨v, vm₁, B, X₁.warmed, X', hpost, fun target h => hstep₁ _ fun acts => by rw [doInvoke_state]; exact hsteps.trans h⟩
  · exact Or.inr ⟨q, vm₁, B, X₁.warmed, X', hpost, hstep₁ _ fun acts => by rw [doInvoke_state]; exact hsteps⟩
end Calls
theorem vx_cls {s : State} {T : State} {vm₁ : Vm} {E : String} {k : ClassId} (hW : s.WarmedH vm₁) (h : (T.setVm vm₁).vm.findClass E = some k) : s.vm.findClass E = some k := by
  have h1 : vm₁.findClass E = some k := h
  rw [hW.alike.findClass] at h1
  exact h1
/-- the method's frame g, with q thrown over it -/
def vx_W (p : Program) (l : Launch) (e : Env) (R : Room) (s : State) (m : MethodId) (args : Array Value) (below : List Frame) (meth : Method) (c : Code) (H : Heap) (locs : List Loc) (cells slots : Nat) (Q : State → Prop) (g : JFrame) (q : Addr) : Prop :=
  ∀ T : State, T.heap = H → Stand p l e R s m args below meth c T locs cells slots → ∃ t, Steps p.tables e below ((T.setTop g).pushFrame (.throwing q)) t ∧ Q t
def vx_Run (p : Program) (l : Launch) (e : Env) (R : Room) (s : State) (m : MethodId) (args : Array Value) (below : List Frame) (meth : Method) (c : Code) (H : Heap) (locs : List Loc) (cells slots mc ms : Nat) (g : JFrame) (rest : List Value) (Qa : State → Outcome → State → Prop) (XC : String → State → State → Prop) (free : Addr → Prop) : Prop :=
  ∀ T : State, T.heap = H → Stand p l e R s m args below meth c T locs cells slots →
    (∃ (v : Option Value) (st₀ t T' : State) (L : List Loc), st₀.heap = H ∧ Stand p l e R s m args below meth c T' (locs ++ L) (cells + mc) (slots + ms) ∧ (∀ q ∈ L, free q.base) ∧ T'.heap = t.heap ∧ T'.vm = t.vm ∧ Qa st₀ (.returned v) t ∧
      Goes p e below T g T' { g with pc := g.pc + 3, stack := v.toList ++ rest }) ∨
    (∃ (q : Addr) (st₀ t T' : State) (L : List Loc) (E : String) (ce : Cell), st₀.heap = H ∧ Stand p l e R s m args below meth c T' (locs ++ L) (cells + mc) (slots + ms) ∧ (∀ z ∈ L, free z.base) ∧ T'.heap = t.heap ∧ T'.vm = t.vm ∧ XC E st₀ t ∧ t.heap[q]? = some ce ∧ ce.vm = .none ∧ s.vm.findClass E = some ce.cls ∧
      Steps p.tables e below (T.setTop g) ((T'.setTop { g with stack := rest }).pushFrame (.throwing q)))
def vx_X {S : Type} (px : S → Prop) (B : String → S → State → Prop) (A : Nat → Prop) : String → State → State → Prop := fun E st t => ∃ u : S, px u ∧ B E u t ∧ va_F A st t
section Runs
variable {p : Program} {l : Launch} {e : Env} {R : Room} {s : State} {m : MethodId} {args : Array Value} {below : List Frame} {meth : Method} {c : Code} {H : Heap} {locs : List Loc} {cells slots : Nat}
variable {y : MethodName} {bytes cc : ByteArray} {maxL nL mc ms n index : Nat} {ret : Option FieldType} {ws : List Cond} {rm : Room} {Pc : Array Value → State → Prop} {Qc : Array Value → State → Outcome → State → Prop} {XC : String → State → State → Prop} {free : Addr → Prop} {Ts : List Cond} {own C : String} {b : Addr} {As rest : List Value} {g : JFrame}
theorem vx_callBack (cb : CallB R s args own index y bytes maxL ret ws rm mc ms n) (hM : vx_Met l y ws rm Pc Qc XC mc ms free) (hbl : FrameBlind Pc) : vx_Back l R p e below s args y 3 8 (PreOf R mc ms Pc) (PostOf Qc mc ms free) (vx_Post XC mc ms free) := by
  obtain ⟨hrc, hrs, hfr, hlo, hws, hcw, -, hini, -⟩ := cb
  exact vx_back (bytes := bytes) (maxL := maxL) (ret := ret) hM hbl hrc hrs hfr hlo hws hcw (fun a' U hW => word_at hW (Or.inl (by first | rfl | simp [Cond.onTables, Cond.keeps, Cond.steady])) hini)
theorem vx_runV (S : CallFix p m c cc nL s args Ts own) (hM : vx_Met l y ws rm Pc Qc XC mc ms free) (cw : CallW R s args own C index y bytes maxL ret ws rm mc ms n) (hp : PreV s H C b Pc As)
    (hg : g.method = m) (hn : As.length = n) (hsize : g.locals.size = nL) (hstack : g.stack = As.reverse ++ .ref b :: rest) (hW : 2 * g.monitorRoom + (rest.map fun v => v.category).sum ≤ 8) (hdg : decode cc g.pc = .ok (.invokevirtual index, 3)) (hf : cells + mc ≤ R.cells ∧ slots + ms ≤ R.slots) :
    vx_Run p l e R s m args below meth c H locs cells slots mc ms g rest (Qc (Value.ref b :: As).toArray) XC free := by
  have hK : vx_Back l R p e below s args y 3 8 (PreOf R mc ms Pc) (PostOf Qc mc ms free) (vx_Post XC mc ms free) := vx_callBack cw.1 hM hp.1
  obtain ⟨⟨-, -, -, -, -, -, hcode, -, hy, hlen, hl⟩, hin, hse⟩ := cw
  obtain ⟨hx, hb, hml, ho, -⟩ := S
  obtain ⟨-, ⟨cellB, hcB, hoB, hclB⟩, hPc⟩ := hp
  intro T hT X
  rcases vx_callV X hx (C := C) (bytes := bytes) (maxL := maxL) (ret := ret) ho hl hin hse hcode hy hK (by rw [hT]; exact hcB) hoB hclB hg (hsize.trans hml.symm) (argsL := As) (rest := rest) (fun sig h => hn.trans (hlen sig h)) hstack hW (by rw [hb]; exact hdg)
    (fun vm₁ hW₁ => ⟨hf.1, hf.2, hPc (T.setVm vm₁) hT hW₁⟩) with ⟨v, vm₁, ⟨U', l2, c2, s2⟩, hW₁, X', ⟨g', mk, t, L, e1, e2, hq, h1, hL, h2, h3⟩, st⟩ | ⟨q, vm₁, ⟨U', l2, c2, s2⟩, hW₁, X', ⟨g', mk, t, L, E, ce, e1, e2, hq, hce, hcv, hcl, h1, hL, h2, h3⟩, st⟩
  · dsimp only [Pt.U, Pt.locs, Pt.cells, Pt.slots] at X' e1 e2 h1 h2 h3 st
    subst h1; subst h2; subst h3
    exact Or.inl ⟨v, (T.setVm vm₁).calling g' mk (Value.ref b :: As).toArray, t, U', L, hT, X', hL, e1, e2, hq, st⟩
  · dsimp only [Pt.U, Pt.locs, Pt.cells, Pt.slots] at X' e1 e2 h1 h2 h3 st hcl
    subst h1; subst h2; subst h3
    exact Or.inr ⟨q, (T.setVm vm₁).calling g' mk (Value.ref b :: As).toArray, t, U', L, E, ce, hT, X', hL, e1, e2, hq, hce, hcv, vx_cls hW₁ hcl, st⟩
theorem vx_runS (S : CallFix p m c cc nL s args Ts own) (hM : vx_Met l y ws rm Pc Qc XC mc ms free) (cw : CallB R s args own index y bytes maxL ret ws rm mc ms n ∧ (Cond.static y).before args s = true) (hp : PreS s H Pc As)
    (hg : g.method = m) (hn : As.length = n) (hsize : g.locals.size = nL) (hstack : g.stack = As.reverse ++ rest) (hW : 2 * g.monitorRoom + (rest.map fun v => v.category).sum ≤ 8) (hdg : decode cc g.pc = .ok (.invokestatic index, 3)) (hf : cells + mc ≤ R.cells ∧ slots + ms ≤ R.slots) :
    vx_Run p l e R s m args below meth c H locs cells slots mc ms g rest (Qc As.toArray) XC free := by
  have hK : vx_Back l R p e below s args y 3 8 (PreOf R mc ms Pc) (PostOf Qc mc ms free) (vx_Post XC mc ms free) := vx_callBack cw.1 hM hp.1
  obtain ⟨⟨-, -, -, -, -, -, hcode, hini, hy, hlen, hl⟩, hstt⟩ := cw
  obtain ⟨hx, hb, hml, ho, -⟩ := S
  intro T hT X
  rcases vx_callS X hx (bytes := bytes) (maxL := maxL) (ret := ret) ho hl hstt hini hcode hy hK hg (hsize.trans hml.symm) (argsL := As) (rest := rest) (fun sig h => hn.trans (hlen sig h)) hstack hW (by rw [hb]; exact hdg)
    (fun vm₁ hW₁ => ⟨hf.1, hf.2, hp.2 (T.setVm vm₁) hT hW₁⟩) with ⟨v, vm₁, ⟨U', l2, c2, s2⟩, hW₁, X', ⟨g', mk, t, L, e1, e2, hq, h1, hL, h2, h3⟩, st⟩ | ⟨q, vm₁, ⟨U', l2, c2, s2⟩, hW₁, X', ⟨g', mk, t, L, E, ce, e1, e2, hq, hce, hcv, hcl, h1, hL, h2, h3⟩, st⟩
  · dsimp only [Pt.U, Pt.locs, Pt.cells, Pt.slots] at X' e1 e2 h1 h2 h3 st
    subst h1; subst h2; subst h3
    exact Or.inl ⟨v, (T.setVm vm₁).calling g' mk As.toArray, t, U', L, hT, X', hL, e1, e2, hq, st⟩
  · dsimp only [Pt.U, Pt.locs, Pt.cells, Pt.slots] at X' e1 e2 h1 h2 h3 st hcl
    subst h1; subst h2; subst h3
    exact Or.inr ⟨q, (T.setVm vm₁).calling g' mk As.toArray, t, U', L, E, ce, hT, X', hL, e1, e2, hq, hce, hcv, vx_cls hW₁ hcl, st⟩
end Runs
section Rows
variable {p : Program} {l : Launch} {e : Env} {R : Room} {s : State} {m : MethodId} {args : Array Value} {below : List Frame} {meth : Method} {c : Code} {H : Heap} {locs : List Loc} {cells slots : Nat} {Q : State → Prop}
variable {mc ms : Nat} {free : Addr → Prop} {A0 A1 : Nat → Prop} {H0 : Heap} {a : Array Value} {pc : Nat} {ls : Array Slot} {st0 rest : List Value}
theorem vx_keep {st₀ t T' : State} {L : List Loc} (h0 : st₀.heap = H) (e1 : T'.heap = t.heap) (hS : va_S A0 H0 H locs) (hA : ∀ q, q < H.size → A1 q → A0 q) (hf : ∀ q, free q → A0 q) (hL : ∀ q ∈ L, free q.base) (hF : va_F A1 st₀ t) :
    H.size ≤ T'.heap.size ∧ (∀ q : Nat, q < H.size → ¬ A1 q → T'.heap[q]? = H[q]?) ∧ va_S A0 H0 T'.heap (locs ++ L) := by
  obtain ⟨hz, hk⟩ := hF
  rw [h0] at hz hk
  exact ⟨by rw [e1]; exact hz, fun q h1 h2 => by rw [e1]; exact hk q h1 h2,
    ⟨Nat.le_trans hS.1 (by rw [e1]; exact hz), fun q h1 h2 => by rw [e1, hk q (Nat.lt_of_lt_of_le h1 hS.1) (fun z => h2 (hA q (Nat.lt_of_lt_of_le h1 hS.1) z))]; exact hS.2.1 q h1 h2, fun q hq => by
      rcases List.mem_append.mp hq with h | h
      · exact hS.2.2 q h
      · exact hf _ (hL q h)⟩⟩
theorem vx_calli {S SX : Type} {post : Int32 → S → Prop} {px : SX → Prop} {B : S → State → Prop} {BX : String → SX → State → Prop} {AX : Nat → Prop} (hr : vx_Run p l e R s m args below meth c H locs cells slots mc ms (F0 m pc ls st0) rest (va_Qi post B A1 a) (vx_X px BX AX) free) (hS : va_S A0 H0 H locs) (hA : ∀ q, q < H.size → A1 q → A0 q) (hf : ∀ q, free q → A0 q) (hAX : ∀ q, q < H.size → AX q → A0 q)
    (kx : ∀ (E : String) (ce : Cell) (q9 : Addr) (u : SX) (t : State) (H1 : Heap) (locs1 : List Loc), t.heap = H1 → s.vm.Alike t.vm → px u → BX E u t → H.size ≤ H1.size → (∀ q : Nat, q < H.size → ¬ AX q → H1[q]? = H[q]?) → va_S A0 H0 H1 locs1 → H1[q9]? = some ce → ce.vm = .none → s.vm.findClass E = some ce.cls → vx_W p l e R s m args below meth c H1 locs1 (cells + mc) (slots + ms) Q (F0 m pc ls rest) q9)
    (kk : ∀ (r : Int32) (u : S) (t : State) (H1 : Heap) (locs1 : List Loc), t.heap = H1 → s.vm.Alike t.vm → post r u → B u t → H.size ≤ H1.size → (∀ q : Nat, q < H.size → ¬ A1 q → H1[q]? = H[q]?) → va_S A0 H0 H1 locs1 → W p l e R s m args below meth c H1 locs1 (cells + mc) (slots + ms) Q (F0 m (pc + 3) ls (.int r :: rest))) : W p l e R s m args below meth c H locs cells slots Q (F0 m pc ls st0) := by
  intro T hT X
  rcases hr T hT X with ⟨v, st₀, t, T', L, h0, X', hL, e1, e2, ⟨⟨r, u, hv, hp, hb⟩, hF⟩, st⟩ | ⟨q, st₀, t, T', L, E, ce, h0, X', hL, e1, e2, ⟨u, hp, hb, hF⟩, hce, hcv, hcl, st⟩
  · cases hv
    obtain ⟨k1, k2, k3⟩ := vx_keep h0 e1 hS hA hf hL hF
    obtain ⟨t2, a1, b1⟩ := kk r u t T'.heap (locs ++ L) e1.symm (by rw [← e2]; exact X'.warmed.alike) hp hb k1 k2 k3 T' rfl X'
    exact ⟨t2, st t2 a1, b1⟩
  · obtain ⟨k1, k2, k3⟩ := vx_keep h0 e1 hS hAX hf hL hF
    obtain ⟨t2, a1, b1⟩ := kx E ce q u t T'.heap (locs ++ L) e1.symm (by rw [← e2]; exact X'.warmed.alike) hp hb k1 k2 k3 (by rw [e1]; exact hce) hcv hcl T' rfl X'
    exact ⟨t2, st.trans a1, b1⟩
theorem vx_calll {S SX : Type} {post : Int64 → S → Prop} {px : SX → Prop} {B : S → State → Prop} {BX : String → SX → State → Prop} {AX : Nat → Prop} (hr : vx_Run p l e R s m args below meth c H locs cells slots mc ms (F0 m pc ls st0) rest (va_Ql post B A1 a) (vx_X px BX AX) free) (hS : va_S A0 H0 H locs) (hA : ∀ q, q < H.size → A1 q → A0 q) (hf : ∀ q, free q → A0 q) (hAX : ∀ q, q < H.size → AX q → A0 q)
    (kx : ∀ (E : String) (ce : Cell) (q9 : Addr) (u : SX) (t : State) (H1 : Heap) (locs1 : List Loc), t.heap = H1 → s.vm.Alike t.vm → px u → BX E u t → H.size ≤ H1.size → (∀ q : Nat, q < H.size → ¬ AX q → H1[q]? = H[q]?) → va_S A0 H0 H1 locs1 → H1[q9]? = some ce → ce.vm = .none → s.vm.findClass E = some ce.cls → vx_W p l e R s m args below meth c H1 locs1 (cells + mc) (slots + ms) Q (F0 m pc ls rest) q9)
    (kk : ∀ (r : Int64) (u : S) (t : State) (H1 : Heap) (locs1 : List Loc), t.heap = H1 → s.vm.Alike t.vm → post r u → B u t → H.size ≤ H1.size → (∀ q : Nat, q < H.size → ¬ A1 q → H1[q]? = H[q]?) → va_S A0 H0 H1 locs1 → W p l e R s m args below meth c H1 locs1 (cells + mc) (slots + ms) Q (F0 m (pc + 3) ls (.long r :: rest))) : W p l e R s m args below meth c H locs cells slots Q (F0 m pc ls st0) := by
  intro T hT X
  rcases hr T hT X with ⟨v, st₀, t, T', L, h0, X', hL, e1, e2, ⟨⟨r, u, hv, hp, hb⟩, hF⟩, st⟩ | ⟨q, st₀, t, T', L, E, ce, h0, X', hL, e1, e2, ⟨u, hp, hb, hF⟩, hce, hcv, hcl, st⟩
  · cases hv
    obtain ⟨k1, k2, k3⟩ := vx_keep h0 e1 hS hA hf hL hF
    obtain ⟨t2, a1, b1⟩ := kk r u t T'.heap (locs ++ L) e1.symm (by rw [← e2]; exact X'.warmed.alike) hp hb k1 k2 k3 T' rfl X'
    exact ⟨t2, st t2 a1, b1⟩
  · obtain ⟨k1, k2, k3⟩ := vx_keep h0 e1 hS hAX hf hL hF
    obtain ⟨t2, a1, b1⟩ := kx E ce q u t T'.heap (locs ++ L) e1.symm (by rw [← e2]; exact X'.warmed.alike) hp hb k1 k2 k3 (by rw [e1]; exact hce) hcv hcl T' rfl X'
    exact ⟨t2, st.trans a1, b1⟩
theorem vx_callf {S SX : Type} {post : UInt32 → S → Prop} {px : SX → Prop} {B : S → State → Prop} {BX : String → SX → State → Prop} {AX : Nat → Prop} (hr : vx_Run p l e R s m args below meth c H locs cells slots mc ms (F0 m pc ls st0) rest (va_Qf post B A1 a) (vx_X px BX AX) free) (hS : va_S A0 H0 H locs) (hA : ∀ q, q < H.size → A1 q → A0 q) (hf : ∀ q, free q → A0 q) (hAX : ∀ q, q < H.size → AX q → A0 q)
    (kx : ∀ (E : String) (ce : Cell) (q9 : Addr) (u : SX) (t : State) (H1 : Heap) (locs1 : List Loc), t.heap = H1 → s.vm.Alike t.vm → px u → BX E u t → H.size ≤ H1.size → (∀ q : Nat, q < H.size → ¬ AX q → H1[q]? = H[q]?) → va_S A0 H0 H1 locs1 → H1[q9]? = some ce → ce.vm = .none → s.vm.findClass E = some ce.cls → vx_W p l e R s m args below meth c H1 locs1 (cells + mc) (slots + ms) Q (F0 m pc ls rest) q9)
    (kk : ∀ (r : UInt32) (u : S) (t : State) (H1 : Heap) (locs1 : List Loc), t.heap = H1 → s.vm.Alike t.vm → post r u → B u t → H.size ≤ H1.size → (∀ q : Nat, q < H.size → ¬ A1 q → H1[q]? = H[q]?) → va_S A0 H0 H1 locs1 → W p l e R s m args below meth c H1 locs1 (cells + mc) (slots + ms) Q (F0 m (pc + 3) ls (.float r :: rest))) : W p l e R s m args below meth c H locs cells slots Q (F0 m pc ls st0) := by
  intro T hT X
  rcases hr T hT X with ⟨v, st₀, t, T', L, h0, X', hL, e1, e2, ⟨⟨r, u, hv, hp, hb⟩, hF⟩, st⟩ | ⟨q, st₀, t, T', L, E, ce, h0, X', hL, e1, e2, ⟨u, hp, hb, hF⟩, hce, hcv, hcl, st⟩
  · cases hv
    obtain ⟨k1, k2, k3⟩ := vx_keep h0 e1 hS hA hf hL hF
    obtain ⟨t2, a1, b1⟩ := kk r u t T'.heap (locs ++ L) e1.symm (by rw [← e2]; exact X'.warmed.alike) hp hb k1 k2 k3 T' rfl X'
    exact ⟨t2, st t2 a1, b1⟩
  · obtain ⟨k1, k2, k3⟩ := vx_keep h0 e1 hS hAX hf hL hF
    obtain ⟨t2, a1, b1⟩ := kx E ce q u t T'.heap (locs ++ L) e1.symm (by rw [← e2]; exact X'.warmed.alike) hp hb k1 k2 k3 (by rw [e1]; exact hce) hcv hcl T' rfl X'
    exact ⟨t2, st.trans a1, b1⟩
theorem vx_calld {S SX : Type} {post : UInt64 → S → Prop} {px : SX → Prop} {B : S → State → Prop} {BX : String → SX → State → Prop} {AX : Nat → Prop} (hr : vx_Run p l e R s m args below meth c H locs cells slots mc ms (F0 m pc ls st0) rest (va_Qd post B A1 a) (vx_X px BX AX) free) (hS : va_S A0 H0 H locs) (hA : ∀ q, q < H.size → A1 q → A0 q) (hf : ∀ q, free q → A0 q) (hAX : ∀ q, q < H.size → AX q → A0 q)
    (kx : ∀ (E : String) (ce : Cell) (q9 : Addr) (u : SX) (t : State) (H1 : Heap) (locs1 : List Loc), t.heap = H1 → s.vm.Alike t.vm → px u → BX E u t → H.size ≤ H1.size → (∀ q : Nat, q < H.size → ¬ AX q → H1[q]? = H[q]?) → va_S A0 H0 H1 locs1 → H1[q9]? = some ce → ce.vm = .none → s.vm.findClass E = some ce.cls → vx_W p l e R s m args below meth c H1 locs1 (cells + mc) (slots + ms) Q (F0 m pc ls rest) q9)
    (kk : ∀ (r : UInt64) (u : S) (t : State) (H1 : Heap) (locs1 : List Loc), t.heap = H1 → s.vm.Alike t.vm → post r u → B u t → H.size ≤ H1.size → (∀ q : Nat, q < H.size → ¬ A1 q → H1[q]? = H[q]?) → va_S A0 H0 H1 locs1 → W p l e R s m args below meth c H1 locs1 (cells + mc) (slots + ms) Q (F0 m (pc + 3) ls (.double r :: rest))) : W p l e R s m args below meth c H locs cells slots Q (F0 m pc ls st0) := by
  intro T hT X
  rcases hr T hT X with ⟨v, st₀, t, T', L, h0, X', hL, e1, e2, ⟨⟨r, u, hv, hp, hb⟩, hF⟩, st⟩ | ⟨q, st₀, t, T', L, E, ce, h0, X', hL, e1, e2, ⟨u, hp, hb, hF⟩, hce, hcv, hcl, st⟩
  · cases hv
    obtain ⟨k1, k2, k3⟩ := vx_keep h0 e1 hS hA hf hL hF
    obtain ⟨t2, a1, b1⟩ := kk r u t T'.heap (locs ++ L) e1.symm (by rw [← e2]; exact X'.warmed.alike) hp hb k1 k2 k3 T' rfl X'
    exact ⟨t2, st t2 a1, b1⟩
  · obtain ⟨k1, k2, k3⟩ := vx_keep h0 e1 hS hAX hf hL hF
    obtain ⟨t2, a1, b1⟩ := kx E ce q u t T'.heap (locs ++ L) e1.symm (by rw [← e2]; exact X'.warmed.alike) hp hb k1 k2 k3 (by rw [e1]; exact hce) hcv hcl T' rfl X'
    exact ⟨t2, st.trans a1, b1⟩
theorem vx_callv {S SX : Type} {post : S → Prop} {px : SX → Prop} {B : S → State → Prop} {BX : String → SX → State → Prop} {AX : Nat → Prop} (hr : vx_Run p l e R s m args below meth c H locs cells slots mc ms (F0 m pc ls st0) rest (va_Qv post B A1 a) (vx_X px BX AX) free) (hS : va_S A0 H0 H locs) (hA : ∀ q, q < H.size → A1 q → A0 q) (hf : ∀ q, free q → A0 q) (hAX : ∀ q, q < H.size → AX q → A0 q)
    (kx : ∀ (E : String) (ce : Cell) (q9 : Addr) (u : SX) (t : State) (H1 : Heap) (locs1 : List Loc), t.heap = H1 → s.vm.Alike t.vm → px u → BX E u t → H.size ≤ H1.size → (∀ q : Nat, q < H.size → ¬ AX q → H1[q]? = H[q]?) → va_S A0 H0 H1 locs1 → H1[q9]? = some ce → ce.vm = .none → s.vm.findClass E = some ce.cls → vx_W p l e R s m args below meth c H1 locs1 (cells + mc) (slots + ms) Q (F0 m pc ls rest) q9)
    (kk : ∀ (u : S) (t : State) (H1 : Heap) (locs1 : List Loc), t.heap = H1 → s.vm.Alike t.vm → post u → B u t → H.size ≤ H1.size → (∀ q : Nat, q < H.size → ¬ A1 q → H1[q]? = H[q]?) → va_S A0 H0 H1 locs1 → W p l e R s m args below meth c H1 locs1 (cells + mc) (slots + ms) Q (F0 m (pc + 3) ls (rest))) : W p l e R s m args below meth c H locs cells slots Q (F0 m pc ls st0) := by
  intro T hT X
  rcases hr T hT X with ⟨v, st₀, t, T', L, h0, X', hL, e1, e2, ⟨⟨u, hv, hp, hb⟩, hF⟩, st⟩ | ⟨q, st₀, t, T', L, E, ce, h0, X', hL, e1, e2, ⟨u, hp, hb, hF⟩, hce, hcv, hcl, st⟩
  · cases hv
    obtain ⟨k1, k2, k3⟩ := vx_keep h0 e1 hS hA hf hL hF
    obtain ⟨t2, a1, b1⟩ := kk u t T'.heap (locs ++ L) e1.symm (by rw [← e2]; exact X'.warmed.alike) hp hb k1 k2 k3 T' rfl X'
    exact ⟨t2, st t2 a1, b1⟩
  · obtain ⟨k1, k2, k3⟩ := vx_keep h0 e1 hS hAX hf hL hF
    obtain ⟨t2, a1, b1⟩ := kx E ce q u t T'.heap (locs ++ L) e1.symm (by rw [← e2]; exact X'.warmed.alike) hp hb k1 k2 k3 (by rw [e1]; exact hce) hcv hcl T' rfl X'
    exact ⟨t2, st.trans a1, b1⟩
/-- caught by the row x of this method's table; the rows ahead don't take it -/
theorem vx_catch {own name : String} {E : String} {ce : Cell} {q : Addr} (hown : s.vm.findClass own = some m.cls) (pre : List ExceptionTableEntry) (x : ExceptionTableEntry) (suf : List ExceptionTableEntry) (hsplit : c.exceptionTable.toList = pre ++ x :: suf)
    (hpass : ∀ z ∈ pre, covers z pc = false ∨ (z.catchType ≠ 0 ∧ ∃ nm : String, (Cond.classLink own z.catchType nm).before args s = true ∧ va_Nc E nm s)) (hx : covers x pc = true) (h0 : x.catchType ≠ 0)
    (hlink : (Cond.classLink own x.catchType name).before args s = true) (hcast : (Cond.castable E name).before args s = true) (hcell : H[q]? = some ce) (hv : ce.vm = .none) (hcl : s.vm.findClass E = some ce.cls)
    (kk : W p l e R s m args below meth c H locs cells slots Q (F0 m x.handlerPc ls [.ref q])) : vx_W p l e R s m args below meth c H locs cells slots Q (F0 m pc ls rest) q := by
  intro T hT X
  have hpl : e.platform.magicAccessors = ({} : Platform).magicAccessors := by rw [X.admits.platform]
  obtain ⟨c3, c4, hc3, hc4, hasg⟩ := Cond.castable_spec hcast
  cases Option.some.inj (hc3.symm.trans hcl)
  obtain ⟨c5, hc5, hcl5⟩ := Cond.classLink_spec hown hlink e.platform hpl
  cases Option.some.inj (hc4.symm.trans hc5)
  obtain ⟨vm', X', st⟩ := X.thenCaughtThrough q (g := F0 m pc ls rest) rfl (Steps.refl _) (by rw [hT]; exact hcell) (by rw [hv]; rfl) (by obtain ⟨k9, h9, -⟩ := Vm.findClass_spec hcl; exact ⟨k9, h9⟩) pre x suf hsplit
    (fun z hz => by
      rcases hpass z hz with h | ⟨hz0, nm, hl1, hn1⟩
      · exact Or.inl h
      · obtain ⟨c6, hc6, hcl6⟩ := Cond.classLink_spec hown hl1 e.platform hpl
        obtain ⟨a8, b8, h1, h2, h3⟩ := hn1
        cases Option.some.inj (h1.symm.trans hcl)
        cases Option.some.inj (h2.symm.trans hc6)
        exact Or.inr ⟨hz0, _, hcl6, h3⟩) hx (Or.inr ⟨h0, c4, hcl5, hasg⟩)
  obtain ⟨t, a1, b1⟩ := kk (T.setVm vm') hT X'
  exact ⟨t, st.trans a1, b1⟩
end Rows
section Ends
variable {p : Program} {l : Launch} {e : Env} {R : Room} {s : State} {m : MethodId} {args : Array Value} {below : List Frame} {meth : Method} {c : Code} {H : Heap} {locs : List Loc} {cells slots : Nat} {Q : State → Prop}
variable {mc ms : Nat} {free : Addr → Prop} {A0 A1 : Nat → Prop} {H0 : Heap} {a : Array Value} {ls : Array Slot} {st0 rest : List Value}
variable {Qc : Array Value → State → Outcome → State → Prop} {XC : String → State → State → Prop}
/-- what a body that may throw owes at its end -/
def vx_MQ (below : List Frame) (Qc : Array Value → State → Outcome → State → Prop) (XC : String → State → State → Prop) (a : Array Value) (s : State) (mc ms : Nat) (free : Addr → Prop) : State → Prop := fun t =>
  ∃ o, t.status = .running ∧ Ended t below o ∧ vx_Q Qc XC mc ms free a s o t
theorem vx_ret {g : JFrame} {mc ms : Nat} (k : W p l e R s m args below meth c H locs cells slots (MQ below Qc args s mc ms free) g) : W p l e R s m args below meth c H locs cells slots (vx_MQ below Qc XC args s mc ms free) g := by
  intro T hT X
  obtain ⟨t, a1, o, b1, b2, b3, b4⟩ := k T hT X
  exact ⟨t, a1, o, b1, b2, Or.inl ⟨b3, b4⟩⟩
/-- not caught here: it goes on to the caller -/
theorem vx_widen {g : JFrame} {q : Addr} {k n : Nat} (h1 : cells ≤ k) (h2 : slots ≤ n) (kk : vx_W p l e R s m args below meth c H locs k n Q g q) : vx_W p l e R s m args below meth c H locs cells slots Q g q := fun T hT X => kk T hT (stand_widen X h1 h2)
theorem vx_out {pc : Nat} {E : String} {ce : Cell} {q : Addr} {mc ms : Nat} (hout : ∀ x ∈ c.exceptionTable.toList, covers x pc = false) (hlocks : meth.locks = false) (hcell : H[q]? = some ce) (hv : ce.vm = .none) (hcl : s.vm.findClass E = some ce.cls)
    (hx : ∀ t : State, t.heap = H → s.vm.Alike t.vm → XC E s t) (hf : ∀ z ∈ locs, free z.base) (hc : cells ≤ mc) (hs : slots ≤ ms) :
    vx_W p l e R s m args below meth c H locs cells slots (vx_MQ below Qc XC args s mc ms free) (F0 m pc ls rest) q := by
  intro T hT X
  obtain ⟨st1, hrun, hend, hW, hsm⟩ := X.leaveThrown q (g := F0 m pc ls rest) rfl rfl rfl hout hlocks
  have hcell9 : (T.setFrames (.throwing q :: below)).heap[q]? = some ce := by
    show T.heap[q]? = some ce
    rw [hT]; exact hcell
  exact ⟨_, st1, .threw q, hrun, hend, Or.inr ⟨q, rfl, E, ce, locs, hx _ hT hW.alike, hcell9, hv, hcl, hW, hsm.mono hc hs, hf⟩⟩
theorem vx_frame {U : State} {k n : Nat} (h : s.sameButNew ({ U with vm := s.vm } : State) locs k n) : s.heap.size ≤ U.heap.size ∧ ∀ q : Nat, q < s.heap.size → (∀ z ∈ locs, z.base ≠ q) → U.heap[q]? = s.heap[q]? := by
  obtain ⟨-, h2, -, -, -, h6⟩ := h
  refine ⟨h2, fun q hq hz => ?_⟩
  obtain ⟨c9, e1, e2, e3, e4⟩ := h6 q _ (Array.getElem?_eq_getElem hq)
  have hs : c9.slots = (s.heap[q]).slots := Array.ext_getElem? fun i => e4 i fun hm => hz _ hm rfl
  have h9 : c9 = s.heap[q] := by
    rw [hs] at e2
    exact e2
  have e5 : U.heap[q]? = some c9 := e1
  rw [e5, h9, Array.getElem?_eq_getElem hq]
/-- the words of a throw but the four that speak of the heap -/
def vx_no (w : Cond) : Bool := decide (w ≠ .isRef (.static Bundle.tN "UNASSIGNED_STACK" Bundle.steD)) && decide (w ≠ .isRef (.static Bundle.tN "SUPPRESSED_SENTINEL" Bundle.listD)) && decide (w ≠ .laysStatic Bundle.tN "UNASSIGNED_STACK" Bundle.steD) && decide (w ≠ .laysStatic Bundle.tN "SUPPRESSED_SENTINEL" Bundle.listD)
def vx_at0 (own : String) (ic : Nat) (X : String) (names : List String) : List Cond := (Bundle.ownAtoms0 own ic X names).filter vx_no
def vx_atS (own : String) (ic : Nat) (X : String) (names : List String) : List Cond := (Bundle.ownAtoms own ic X names).filter vx_no
/-- a word that the tables alone decide, or a good one -/
def vx_ot (w : Cond) : Bool := w.onTables || goodWord w
theorem vx_ot_at {args a' : Array Value} {s U : State} {w : Cond} (hW : s.WarmedH U.vm) (hvm : s.vm = U.vm) (hg : vx_ot w = true) (h : w.before args s = true) : w.before a' U = true := by
  simp only [vx_ot, Bool.or_eq_true] at hg
  rcases hg with hg | hg
  · exact va_tabs hg hvm h
  · exact word_at hW (good_of_word hg) h
/-- a list's words: the good ones out of the method's own list, the others by premises of their own -/
theorem vx_hat {args : Array Value} {s : State} {L B : List Cond} (h1 : ∀ w ∈ L.filter goodWord, w.before args s = true) (h2 : ∀ w ∈ L.filter (fun w => !goodWord w), w ∈ B) (h3 : ∀ w ∈ B, w.before args s = true) : ∀ w ∈ L, w.before args s = true := by
  intro w hw
  by_cases g : goodWord w = true
  · exact h1 w (List.mem_filter.mpr ⟨hw, g⟩)
  · refine h3 w (h2 w (List.mem_filter.mpr ⟨hw, ?_⟩))
    show (!goodWord w) = true
    cases hgw : goodWord w
    · rfl
    · exact absurd hgw g
theorem vx_c {args : Array Value} {s : State} {w : Cond} {B : List Cond} (h : w.before args s = true) (t : ∀ w ∈ B, w.before args s = true) : ∀ w' ∈ w :: B, w'.before args s = true := fun w' h' => (List.mem_cons.mp h').elim (fun e => by rw [e]; exact h) (t w')
theorem vx_n {args : Array Value} {s : State} : ∀ w ∈ ([] : List Cond), w.before args s = true := fun _ h => nomatch h
theorem vx_own {args : Array Value} {s : State} {L : List Cond} (h1 : ∀ w ∈ L.filter vx_no, w.before args s = true)
    (hU : (Cond.isRef (.static Bundle.tN "UNASSIGNED_STACK" Bundle.steD)).before args s = true) (hN : (Cond.isRef (.static Bundle.tN "SUPPRESSED_SENTINEL" Bundle.listD)).before args s = true)
    (lU : (Cond.laysStatic Bundle.tN "UNASSIGNED_STACK" Bundle.steD).before args s = true) (lN : (Cond.laysStatic Bundle.tN "SUPPRESSED_SENTINEL" Bundle.listD).before args s = true) : ∀ w ∈ L, w.before args s = true := by
  intro w hw
  by_cases e1 : w = .isRef (.static Bundle.tN "UNASSIGNED_STACK" Bundle.steD)
  · rw [e1]; exact hU
  · by_cases e2 : w = .isRef (.static Bundle.tN "SUPPRESSED_SENTINEL" Bundle.listD)
    · rw [e2]; exact hN
    · by_cases e3 : w = .laysStatic Bundle.tN "UNASSIGNED_STACK" Bundle.steD
      · rw [e3]; exact lU
      · by_cases e4 : w = .laysStatic Bundle.tN "SUPPRESSED_SENTINEL" Bundle.listD
        · rw [e4]; exact lN
        · exact h1 w (List.mem_filter.mpr ⟨hw, by unfold vx_no; rw [decide_eq_true e1, decide_eq_true e2, decide_eq_true e3, decide_eq_true e4]; rfl⟩)
/-- where a static field lies, its class's statics cell in H -/
def vx_L (C n d : String) (A : Nat → Prop) (U : State) (H : Heap) : Prop := ∃ (c : ClassId) (k : Class) (i : Nat) (f : Field) (a : Nat) (cell : Cell), U.vm.findClass C = some c ∧ U.fieldFound? C n d = some (c, k, i, f) ∧ f.isStatic = true ∧ k.statics = some a ∧ H[a]? = some cell ∧ cell.vm.isStatics = true ∧ cell.cls = c ∧ f.slot < cell.slots.size ∧ k.staticTypes[f.slot]? = some f.type ∧ ¬ A a
theorem vx_L.moved {C n d : String} {A : Nat → Prop} {u U : State} {H : Heap} (hvm : u.vm.Alike U.vm) (h : vx_L C n d A u H) : vx_L C n d A U H := by
  obtain ⟨c, k, i, f, a, cell, h1, h2, h3, h4, h5, h6, h7, h8, h9, h10⟩ := h
  obtain ⟨k', hi', he⟩ := State.fieldFound?_setVm hvm h2
  exact ⟨c, k', i, f, a, cell, by rw [hvm.findClass]; exact h1, hi', h3, by rw [he]; exact h4, h5, h6, h7, h8, by rw [he]; exact h9, h10⟩
theorem vx_L.kept {C n d : String} {A : Nat → Prop} {U : State} {H H1 : Heap} (h : vx_L C n d A U H) (hq : ∀ a : Nat, a < H.size → ¬ A a → H1[a]? = H[a]?) : vx_L C n d A U H1 := by
  obtain ⟨c, k, i, f, a, cell, h1, h2, h3, h4, h5, h6, h7, h8, h9, h10⟩ := h
  exact ⟨c, k, i, f, a, cell, h1, h2, h3, h4, by rw [hq a (Array.getElem?_eq_some_iff.mp h5).1 h10]; exact h5, h6, h7, h8, h9, h10⟩
theorem vx_L.narrow {C n d : String} {A B : Nat → Prop} {U : State} {H : Heap} (h : vx_L C n d A U H) (hAB : ∀ q, B q → A q) : vx_L C n d B U H := by
  obtain ⟨c, k, i, f, a, cell, h1, h2, h3, h4, h5, h6, h7, h8, h9, h10⟩ := h
  exact ⟨c, k, i, f, a, cell, h1, h2, h3, h4, h5, h6, h7, h8, h9, fun z => h10 (hAB _ z)⟩
theorem vx_L.word {C n d : String} {A : Nat → Prop} {s : State} {args : Array Value} (h : vx_L C n d A s s.heap) : (Cond.laysStatic C n d).before args s = true := by
  obtain ⟨c, k, i, f, a, cell, h1, h2, h3, h4, h5, h6, h7, h8, h9, -⟩ := h
  show (Cond.laysStatic C n d).holds args s none s [] = true
  exact Cond.laysStatic_of h1 h2 h3 h4 h5 h6 h7 h8 h9
/-- .. and what it holds: null or some reference -/
def vx_Zq (C n d : String) (A : Nat → Prop) (U : State) (H : Heap) : Prop := va_Zq C n d A U H ∧ vx_L C n d A U H
theorem vx_Zq.moved {C n d : String} {A : Nat → Prop} {u U : State} {H : Heap} (hvm : u.vm.Alike U.vm) (h : vx_Zq C n d A u H) : vx_Zq C n d A U H := ⟨va_Zq.moved hvm h.1, vx_L.moved hvm h.2⟩
theorem vx_Zq.kept {C n d : String} {A : Nat → Prop} {U : State} {H H1 : Heap} (h : vx_Zq C n d A U H) (hq : ∀ a : Nat, a < H.size → ¬ A a → H1[a]? = H[a]?) : vx_Zq C n d A U H1 := ⟨va_Zq.kept h.1 hq, vx_L.kept h.2 hq⟩
theorem vx_Zq.narrow {C n d : String} {A B : Nat → Prop} {U : State} {H : Heap} (h : vx_Zq C n d A U H) (hAB : ∀ q, B q → A q) : vx_Zq C n d B U H := ⟨va_Zq.narrow h.1 hAB, vx_L.narrow h.2 hAB⟩
theorem vx_Zqof {args : Array Value} {s : State} {C n d : String} {A : Nat → Prop} (hl : (Cond.laysStatic C n d).before args s = true) (hini : (Cond.initialized C).before args s = true) (h : (Cond.isRef (.static C n d)).before args s = true) (hA : ∀ a : Nat, a < s.heap.size → ¬ A a) : vx_Zq C n d A s s.heap := by
  refine ⟨va_Zqof hl hini h hA, ?_⟩
  obtain ⟨c, k, i, f, a, cell, h1, h2, h3, h4, h5, h6, h7, h8, h9⟩ := Cond.laysStatic_spec hl
  exact ⟨c, k, i, f, a, cell, h1, h2, h3, h4, h5, h6, h7, h8, h9, hA a (Array.getElem?_eq_some_iff.mp h5).1⟩
theorem vx_isRef {C n d : String} {v : Value} {A : Nat → Prop} {s : State} {args : Array Value} (h : va_Z C n d v A s s.heap) (hv : v.isRef = true) : (Cond.isRef (.static C n d)).before args s = true := by
  obtain ⟨cf, kf, fi, f, a, cell, h1, h2, h3, h4, h5, h6, h7, -⟩ := h
  have he : (Term.static C n d).eval args s none [] s = some v := by
    simp [Term.eval, State.fieldNamed?, h1, h2, h4, h5, h6, h7]
  simp only [Cond.before, Cond.holds, Cond.value, he]
  cases v <;> simp_all [Value.isRef]
theorem vx_isRefq {C n d : String} {A : Nat → Prop} {s : State} {args : Array Value} (h : va_Zq C n d A s s.heap) : (Cond.isRef (.static C n d)).before args s = true := by
  rcases h with h | ⟨t, h⟩
  · exact vx_isRef h rfl
  · exact vx_isRef h rfl
/-- the same frame, seen from here: as if the method were called anew in this heap -/
theorem vx_rebase {T : State} (X : Stand p l e R s m args below meth c T locs cells slots) {R' : Room} (hf : R'.frames ≤ R.frames) (hl : R'.locals ≤ R.locals) (hc : cells + R'.cells ≤ R.cells) (hs : slots + R'.slots ≤ R.slots) :
    Stand p l e R' ((T.setVm s.vm).setFrames (.invoking m args :: below)) m args below meth c T [] 0 0 := by
  have htop : (T.setVm s.vm).topJava?.isSome := X.here.top
  have hF : ((T.setVm s.vm).setFrames (.invoking m args :: below)).frames = .invoking m args :: below := State.frames_setFrames _ (State.cur_lt_of_top htop)
  obtain ⟨g₀, hg0⟩ := Option.isSome_iff_exists.mp htop
  obtain ⟨r, hr⟩ := State.topJava?_eq_some.mp hg0
  have hl9 : e.platform.stackLimits (T.setVm s.vm).me = e.platform.stackLimits s.me := X.limits
  have hb9 : (T.setVm s.vm).me.stackBytes = s.me.stackBytes := X.bytes
  refine ⟨X.admits, X.cas, X.clock, hF, ?_, X.hears, X.method, X.code, X.here, X.tail, X.warmed, ?_, ?_, ?_⟩
  · have h := X.room
    have hU : ((T.setVm s.vm).setFrames (.invoking m args :: below)).localsInUse = s.localsInUse := by
      rw [State.localsInUse_invoking hF (meth := meth) (c := c) X.method X.code, State.localsInUse_invoking X.frames X.method X.code]
    simp only [State.hasRoom, Bool.and_eq_true, decide_eq_true_eq] at h ⊢
    obtain ⟨⟨⟨⟨h1, h2, h3, h4, h5, h6⟩, h7⟩, h8⟩, h9⟩ := h
    rw [X.frames, List.length_cons] at h2 h3
    have q1 := X.heapSize
    have q2 := X.used
    simp only [hF, hU, List.length_cons, State.stackLimits_setFrames, State.stackBytes_setFrames, hl9, hb9]
    refine ⟨⟨⟨⟨by omega, by omega, by omega, by omega, by omega, h6⟩, ?_⟩, ?_⟩, X.book⟩
    · show T.heap.size + R'.cells ≤ e.platform.maxCells
      omega
    · show T.slotsUsed + R'.slots ≤ e.platform.maxSlots
      omega
  · rw [State.stackLimits_setFrames]; rfl
  · rw [State.stackBytes_setFrames]; rfl
  · refine ⟨?_, Nat.le_refl _, Nat.le_refl _, ?_, ?_, fun a c9 h9 => ⟨c9, h9, rfl, rfl, fun _ _ => rfl⟩⟩
    · obtain ⟨t, ht, -⟩ := State.frames_cons hr
      show T.setVm s.vm = { ((T.setVm s.vm).setFrames (.invoking m args :: below)).setFrames (T.setVm s.vm).frames with heap := T.heap, slotsUsed := T.slotsUsed }
      rw [State.setFrames_setFrames, State.setFrames_self ht]
      rfl
    · show T.slotsUsed = T.slotsUsed + ((T.heap.toList.drop T.heap.size).map (·.slots.size)).sum
      rw [List.drop_eq_nil_of_le (Nat.le_of_eq Array.length_toList)]
      rfl
    · show ((T.heap.toList.drop T.heap.size).map (·.slots.size)).sum ≤ 0
      rw [List.drop_eq_nil_of_le (Nat.le_of_eq Array.length_toList)]
      exact Nat.le_refl _
/-- 'throw new E()': new; dup; invokespecial; athrow -/
theorem vx_throw0 {cc : ByteArray} {pc : Nat} (hexec : p.tables.exec = Jvm.exec) (hb : c.code = cc) (hl : l.stackTraces = false) {own cls : String} {names : List String} {ik ic mc ms : Nat} {A : Nat → Prop}
    (hown : s.vm.findClass own = some m.cls) (hcls : Bundle.fit cls = true) (hnames : ∀ n ∈ names, Bundle.fit n = true)
    (hk : (Cond.classLink own ik cls).before args s = true) (hini : (Cond.initialized cls).before args s = true) (hat : ∀ w ∈ vx_at0 own ic cls names, w.before args s = true)
    (hgood : ∀ w ∈ Cond.classLink own ik cls :: Cond.initialized cls :: vx_at0 own ic cls names, vx_ot w = true)
    (hU : vx_Zq Bundle.tN "UNASSIGNED_STACK" Bundle.steD A s s.heap) (hN : vx_Zq Bundle.tN "SUPPRESSED_SENTINEL" Bundle.listD A s s.heap) (hS : va_S A s.heap H locs) (hsize : ls.size = c.maxLocals)
    (d0 : decode cc pc = .ok (.new ik, 3)) (d3 : decode cc (pc + 3) = .ok (.dup, 1)) (d4 : decode cc (pc + 4) = .ok (.invokespecial ic, 3)) (d7 : decode cc (pc + 7) = .ok (.athrow, 1))
    (hout : ∀ x ∈ c.exceptionTable.toList, covers x (pc + 7) = false)
    (hRframes : names.length + 3 < R.frames) (hRlocals : (rest.map fun v => v.category).sum + (13 * (names.length + 1) + 42) ≤ R.locals) (hRcells : cells + 1 ≤ R.cells) (hRslots : slots + 6 ≤ R.slots) (hlocks : meth.locks = false)
    (hx : ∀ t : State, s.vm.Alike t.vm → H.size ≤ t.heap.size → (∀ q : Nat, q < H.size → t.heap[q]? = H[q]?) → XC cls s t)
    (hf : ∀ z ∈ locs, free z.base) (hc : cells + 1 ≤ mc) (hs : slots + 6 ≤ ms) :
    W p l e R s m args below meth c H locs cells slots (vx_MQ below Qc XC args s mc ms free) (F0 m pc ls rest) := by
  intro T hT X
  have htr : e.platform.stackTraces = false := (show e.platform.stackTraces = l.stackTraces by rw [X.admits.platform]).trans hl
  have Y := vx_rebase X (R' := { frames := R.frames, locals := R.locals, cells := 1, slots := 6 }) (Nat.le_refl _) (Nat.le_refl _) hRcells hRslots
  obtain ⟨s', hA⟩ : ∃ z, z = (T.setVm s.vm).setFrames (.invoking m args :: below) := ⟨_, rfl⟩
  rw [← hA] at Y
  have hvm : s'.vm = s.vm := by rw [hA]; rfl
  have hhp : s'.heap = H := by rw [hA]; exact hT
  have hW0 : s.WarmedH s'.vm := by rw [hvm]; exact State.WarmedH.refl s
  have hat' : ∀ w ∈ vx_at0 own ic cls names, w.before args s' = true := fun w hw => vx_ot_at hW0 hvm.symm (hgood w (List.mem_cons_of_mem _ (List.mem_cons_of_mem _ hw))) (hat w hw)
  have hk' : (Cond.classLink own ik cls).before args s' = true := vx_ot_at hW0 hvm.symm (hgood _ List.mem_cons_self) hk
  have hini' : (Cond.initialized cls).before args s' = true := vx_ot_at hW0 hvm.symm (hgood _ (List.mem_cons_of_mem _ List.mem_cons_self)) hini
  have hU' : vx_Zq Bundle.tN "UNASSIGNED_STACK" Bundle.steD A s' s'.heap := by rw [hhp]; exact vx_Zq.moved hW0.alike (hU.kept hS.2.1)
  have hN' : vx_Zq Bundle.tN "SUPPRESSED_SENTINEL" Bundle.listD A s' s'.heap := by rw [hhp]; exact vx_Zq.moved hW0.alike (hN.kept hS.2.1)
  have h : ∀ w ∈ Bundle.ownAtoms0 own ic cls names, w.before args s' = true := vx_own hat' (vx_isRefq hU'.1) (vx_isRefq hN'.1) hU'.2.word hN'.2.word
  have hown' : s'.vm.findClass own = some m.cls := by rw [hvm]; exact hown
  have hins : (Cond.instantiable cls 6).before args s' = true := h _ (by simp [Bundle.ownAtoms0])
  obtain ⟨vm₁, cX, kX, hfX, hkX, -, -, X₁, st1⟩ := Y.newCold hexec (own := own) (C := cls) (index := ik) (n := 6) hown' hk' hins hini'
    (g := F0 m pc ls rest) rfl (by rw [hb]; exact d0) (Nat.le_refl _) (Nat.le_refl _)
  generalize hT1 : (T.setVm vm₁).pushCell { cls := cX, slots := kX.instanceTypes.map defaultValue, vm := .none } = T1 at X₁ st1
  have hcat : (Value.ref T.heap.size).category = 1 := rfl
  have hcellA : T1.heap[T.heap.size]? = some (freshCell cX kX) := by rw [← hT1]; exact State.heap_pushCell_size _ _
  have d3' : decode c.code (pc + 3) = .ok (.dup, 1) := by rw [hb]; exact d3
  obtain ⟨U, hsteps, hrun, hend, hW, hsame, ce, hce, hO⟩ := X₁.ctorThrow0 hexec htr (own := own) (cls := cls) (names := names) (ic := ic) hown' hcls hnames h (fun x hx => nomatch hx) hfX hkX hcellA (by rw [hhp, hT]; exact Nat.le_refl _)
    (g := { method := m, pc := pc + 4, locals := ls, stack := .ref T.heap.size :: .ref T.heap.size :: rest, locked := none }) rfl hsize rfl rfl (rest := rest) rfl
    (by rw [hb]; exact d4) (by rw [hb]; exact d7) hout hRframes (by simp only [List.map_cons, List.sum_cons, hcat]; omega) hlocks
  obtain ⟨f1, f2⟩ := vx_frame hsame
  rw [hhp] at f1 f2
  have hWs : s.WarmedH U.vm := State.WarmedH.trans hW0 hW
  have hcl : s.vm.findClass cls = some ce.cls := by
    have h9 := hO.cls
    rw [hvm] at h9
    exact h9
  have hall : s.sameButNew ({ U with vm := s.vm } : State) locs mc ms := by
    subst hA
    obtain ⟨e1, e2⟩ := hsame
    rw [State.setFrames_setFrames] at e1
    have h2 : (T.setVm s.vm).sameButNew ({ U with vm := s.vm } : State) [] (0 + 1) (0 + 6) := ⟨e1, e2⟩
    have h3 := X.same.trans h2
    rw [List.append_nil] at h3
    exact h3.mono hc hs
  refine ⟨U, ?_, .threw T.heap.size, hrun, hend, Or.inr ⟨T.heap.size, rfl, cls, ce, locs, hx U hWs.alike f1 (fun q hq => f2 q hq (fun z hz => nomatch hz)), hce, hO.vm, hcl, hWs, hall, hf⟩⟩
  refine st1 _ ?_
  show Steps p.tables e below (T1.setTop { method := m, pc := pc + 3, locals := ls, stack := .ref T.heap.size :: rest, locked := none }) _
  jvm_step X₁.here [X₁.here.top, hexec, d3', Value.category]
  exact hsteps
/-- 'throw new E("text")': new; dup; ldc; invokespecial; athrow -/
theorem vx_throwS {cc : ByteArray} {pc : Nat} (hexec : p.tables.exec = Jvm.exec) (hb : c.code = cc) (hl : l.stackTraces = false) {own cls text : String} {names : List String} {ik is ic mc ms sa : Nat} {A : Nat → Prop}
    (hown : s.vm.findClass own = some m.cls) (hcls : Bundle.fit cls = true) (hnames : ∀ n ∈ names, Bundle.fit n = true)
    (hk : (Cond.classLink own ik cls).before args s = true) (hini : (Cond.initialized cls).before args s = true) (hstr : vk_R own is text sa s) (hat : ∀ w ∈ vx_atS own ic cls names, w.before args s = true)
    (hgood : ∀ w ∈ Cond.classLink own ik cls :: Cond.initialized cls :: vx_atS own ic cls names, vx_ot w = true)
    (hU : vx_Zq Bundle.tN "UNASSIGNED_STACK" Bundle.steD A s s.heap) (hN : vx_Zq Bundle.tN "SUPPRESSED_SENTINEL" Bundle.listD A s s.heap) (hS : va_S A s.heap H locs) (hsize : ls.size = c.maxLocals)
    (d0 : decode cc pc = .ok (.new ik, 3)) (d3 : decode cc (pc + 3) = .ok (.dup, 1)) (d4 : decode cc (pc + 4) = .ok (.ldc is, 2)) (d6 : decode cc (pc + 6) = .ok (.invokespecial ic, 3)) (d9 : decode cc (pc + 9) = .ok (.athrow, 1))
    (hout : ∀ x ∈ c.exceptionTable.toList, covers x (pc + 9) = false)
    (hRframes : names.length + 3 < R.frames) (hRlocals : (rest.map fun v => v.category).sum + (13 * (names.length + 1) + 43) ≤ R.locals) (hRcells : cells + 1 ≤ R.cells) (hRslots : slots + 6 ≤ R.slots) (hlocks : meth.locks = false)
    (hx : ∀ t : State, s.vm.Alike t.vm → H.size ≤ t.heap.size → (∀ q : Nat, q < H.size → t.heap[q]? = H[q]?) → XC cls s t)
    (hf : ∀ z ∈ locs, free z.base) (hc : cells + 1 ≤ mc) (hs : slots + 6 ≤ ms) :
    W p l e R s m args below meth c H locs cells slots (vx_MQ below Qc XC args s mc ms free) (F0 m pc ls rest) := by
  intro T hT X
  have htr : e.platform.stackTraces = false := (show e.platform.stackTraces = l.stackTraces by rw [X.admits.platform]).trans hl
  have Y := vx_rebase X (R' := { frames := R.frames, locals := R.locals, cells := 1, slots := 6 }) (Nat.le_refl _) (Nat.le_refl _) hRcells hRslots
  obtain ⟨s', hA⟩ : ∃ z, z = (T.setVm s.vm).setFrames (.invoking m args :: below) := ⟨_, rfl⟩
  rw [← hA] at Y
  have hvm : s'.vm = s.vm := by rw [hA]; rfl
  have hhp : s'.heap = H := by rw [hA]; exact hT
  have hW0 : s.WarmedH s'.vm := by rw [hvm]; exact State.WarmedH.refl s
  have hat' : ∀ w ∈ vx_atS own ic cls names, w.before args s' = true := fun w hw => vx_ot_at hW0 hvm.symm (hgood w (List.mem_cons_of_mem _ (List.mem_cons_of_mem _ hw))) (hat w hw)
  have hk' : (Cond.classLink own ik cls).before args s' = true := vx_ot_at hW0 hvm.symm (hgood _ List.mem_cons_self) hk
  have hini' : (Cond.initialized cls).before args s' = true := vx_ot_at hW0 hvm.symm (hgood _ (List.mem_cons_of_mem _ List.mem_cons_self)) hini
  have hU' : vx_Zq Bundle.tN "UNASSIGNED_STACK" Bundle.steD A s' s'.heap := by rw [hhp]; exact vx_Zq.moved hW0.alike (hU.kept hS.2.1)
  have hN' : vx_Zq Bundle.tN "SUPPRESSED_SENTINEL" Bundle.listD A s' s'.heap := by rw [hhp]; exact vx_Zq.moved hW0.alike (hN.kept hS.2.1)
  have h : ∀ w ∈ Bundle.ownAtoms own ic cls names, w.before args s' = true := vx_own hat' (vx_isRefq hU'.1) (vx_isRefq hN'.1) hU'.2.word hN'.2.word
  have hown' : s'.vm.findClass own = some m.cls := by rw [hvm]; exact hown
  have hins : (Cond.instantiable cls 6).before args s' = true := h _ (by simp [Bundle.ownAtoms])
  obtain ⟨vm₁, cX, kX, hfX, hkX, -, -, X₁, st1⟩ := Y.newCold hexec (own := own) (C := cls) (index := ik) (n := 6) hown' hk' hins hini'
    (g := F0 m pc ls rest) rfl (by rw [hb]; exact d0) (Nat.le_refl _) (Nat.le_refl _)
  generalize hT1 : (T.setVm vm₁).pushCell { cls := cX, slots := kX.instanceTypes.map defaultValue, vm := .none } = T1 at X₁ st1
  have hcat : (Value.ref T.heap.size).category = 1 := rfl
  have hcellA : T1.heap[T.heap.size]? = some (freshCell cX kX) := by rw [← hT1]; exact State.heap_pushCell_size _ _
  have d3' : decode c.code (pc + 3) = .ok (.dup, 1) := by rw [hb]; exact d3
  have d4' : decode c.code (pc + 4) = .ok (.ldc is, 2) := by rw [hb]; exact d4
  have hstr' : vk_R own is text sa s' := vk_R.warm hW0 hstr
  obtain ⟨U, hsteps, hrun, hend, hW, hsame, ce, hce, hO⟩ := X₁.ctorThrowS hexec htr (own := own) (cls := cls) (names := names) (ic := ic) hown' hcls hnames h (fun x hx => nomatch hx) hfX hkX hcellA (by rw [hhp, hT]; exact Nat.le_refl _) (msg := .ref sa) rfl
    (g := { method := m, pc := pc + 6, locals := ls, stack := .ref sa :: .ref T.heap.size :: .ref T.heap.size :: rest, locked := none }) rfl hsize rfl rfl (rest := rest) rfl
    (by rw [hb]; exact d6) (by rw [hb]; exact d9) hout hRframes (by simp only [List.map_cons, List.sum_cons, hcat]; omega) hlocks
  obtain ⟨f1, f2⟩ := vx_frame hsame
  rw [hhp] at f1 f2
  have hWs : s.WarmedH U.vm := State.WarmedH.trans hW0 hW
  have hcl : s.vm.findClass cls = some ce.cls := by
    have h9 := hO.cls
    rw [hvm] at h9
    exact h9
  have hall : s.sameButNew ({ U with vm := s.vm } : State) locs mc ms := by
    subst hA
    obtain ⟨e1, e2⟩ := hsame
    rw [State.setFrames_setFrames] at e1
    have h2 : (T.setVm s.vm).sameButNew ({ U with vm := s.vm } : State) [] (0 + 1) (0 + 6) := ⟨e1, e2⟩
    have h3 := X.same.trans h2
    rw [List.append_nil] at h3
    exact h3.mono hc hs
  refine ⟨U, ?_, .threw T.heap.size, hrun, hend, Or.inr ⟨T.heap.size, rfl, cls, ce, locs, hx U hWs.alike f1 (fun q hq => f2 q hq (fun z hz => nomatch hz)), hce, hO.vm, hcl, hWs, hall, hf⟩⟩
  refine st1 _ ?_
  show Steps p.tables e below (T1.setTop { method := m, pc := pc + 3, locals := ls, stack := .ref T.heap.size :: rest, locked := none }) _
  jvm_step X₁.here [X₁.here.top, hexec, d3', Value.category]
  exact X₁.ldcString hexec (own := own) (text := text) (index := is) (a := sa) hown' hstr'.1 hstr'.2
    (g := { method := m, pc := pc + 4, locals := ls, stack := .ref T.heap.size :: .ref T.heap.size :: rest, locked := none }) rfl d4' _ hsteps
/-- 'throw new E("text")', the text by a wide index -/
theorem vx_throwSW {cc : ByteArray} {pc : Nat} (hexec : p.tables.exec = Jvm.exec) (hb : c.code = cc) (hl : l.stackTraces = false) {own cls text : String} {names : List String} {ik is ic mc ms sa : Nat} {A : Nat → Prop}
    (hown : s.vm.findClass own = some m.cls) (hcls : Bundle.fit cls = true) (hnames : ∀ n ∈ names, Bundle.fit n = true)
    (hk : (Cond.classLink own ik cls).before args s = true) (hini : (Cond.initialized cls).before args s = true) (hstr : vk_R own is text sa s) (hat : ∀ w ∈ vx_atS own ic cls names, w.before args s = true)
    (hgood : ∀ w ∈ Cond.classLink own ik cls :: Cond.initialized cls :: vx_atS own ic cls names, vx_ot w = true)
    (hU : vx_Zq Bundle.tN "UNASSIGNED_STACK" Bundle.steD A s s.heap) (hN : vx_Zq Bundle.tN "SUPPRESSED_SENTINEL" Bundle.listD A s s.heap) (hS : va_S A s.heap H locs) (hsize : ls.size = c.maxLocals)
    (d0 : decode cc pc = .ok (.new ik, 3)) (d3 : decode cc (pc + 3) = .ok (.dup, 1)) (d4 : decode cc (pc + 4) = .ok (.ldc_w is, 3)) (d7 : decode cc (pc + 7) = .ok (.invokespecial ic, 3)) (d10 : decode cc (pc + 10) = .ok (.athrow, 1))
    (hout : ∀ x ∈ c.exceptionTable.toList, covers x (pc + 10) = false)
    (hRframes : names.length + 3 < R.frames) (hRlocals : (rest.map fun v => v.category).sum + (13 * (names.length + 1) + 43) ≤ R.locals) (hRcells : cells + 1 ≤ R.cells) (hRslots : slots + 6 ≤ R.slots) (hlocks : meth.locks = false)
    (hx : ∀ t : State, s.vm.Alike t.vm → H.size ≤ t.heap.size → (∀ q : Nat, q < H.size → t.heap[q]? = H[q]?) → XC cls s t)
    (hf : ∀ z ∈ locs, free z.base) (hc : cells + 1 ≤ mc) (hs : slots + 6 ≤ ms) :
    W p l e R s m args below meth c H locs cells slots (vx_MQ below Qc XC args s mc ms free) (F0 m pc ls rest) := by
  intro T hT X
  have htr : e.platform.stackTraces = false := (show e.platform.stackTraces = l.stackTraces by rw [X.admits.platform]).trans hl
  have Y := vx_rebase X (R' := { frames := R.frames, locals := R.locals, cells := 1, slots := 6 }) (Nat.le_refl _) (Nat.le_refl _) hRcells hRslots
  obtain ⟨s', hA⟩ : ∃ z, z = (T.setVm s.vm).setFrames (.invoking m args :: below) := ⟨_, rfl⟩
  rw [← hA] at Y
  have hvm : s'.vm = s.vm := by rw [hA]; rfl
  have hhp : s'.heap = H := by rw [hA]; exact hT
  have hW0 : s.WarmedH s'.vm := by rw [hvm]; exact State.WarmedH.refl s
  have hat' : ∀ w ∈ vx_atS own ic cls names, w.before args s' = true := fun w hw => vx_ot_at hW0 hvm.symm (hgood w (List.mem_cons_of_mem _ (List.mem_cons_of_mem _ hw))) (hat w hw)
  have hk' : (Cond.classLink own ik cls).before args s' = true := vx_ot_at hW0 hvm.symm (hgood _ List.mem_cons_self) hk
  have hini' : (Cond.initialized cls).before args s' = true := vx_ot_at hW0 hvm.symm (hgood _ (List.mem_cons_of_mem _ List.mem_cons_self)) hini
  have hU' : vx_Zq Bundle.tN "UNASSIGNED_STACK" Bundle.steD A s' s'.heap := by rw [hhp]; exact vx_Zq.moved hW0.alike (hU.kept hS.2.1)
  have hN' : vx_Zq Bundle.tN "SUPPRESSED_SENTINEL" Bundle.listD A s' s'.heap := by rw [hhp]; exact vx_Zq.moved hW0.alike (hN.kept hS.2.1)
  have h : ∀ w ∈ Bundle.ownAtoms own ic cls names, w.before args s' = true := vx_own hat' (vx_isRefq hU'.1) (vx_isRefq hN'.1) hU'.2.word hN'.2.word
  have hown' : s'.vm.findClass own = some m.cls := by rw [hvm]; exact hown
  have hins : (Cond.instantiable cls 6).before args s' = true := h _ (by simp [Bundle.ownAtoms])
  obtain ⟨vm₁, cX, kX, hfX, hkX, -, -, X₁, st1⟩ := Y.newCold hexec (own := own) (C := cls) (index := ik) (n := 6) hown' hk' hins hini'
    (g := F0 m pc ls rest) rfl (by rw [hb]; exact d0) (Nat.le_refl _) (Nat.le_refl _)
  generalize hT1 : (T.setVm vm₁).pushCell { cls := cX, slots := kX.instanceTypes.map defaultValue, vm := .none } = T1 at X₁ st1
  have hcat : (Value.ref T.heap.size).category = 1 := rfl
  have hcellA : T1.heap[T.heap.size]? = some (freshCell cX kX) := by rw [← hT1]; exact State.heap_pushCell_size _ _
  have d3' : decode c.code (pc + 3) = .ok (.dup, 1) := by rw [hb]; exact d3
  have d4' : decode c.code (pc + 4) = .ok (.ldc_w is, 3) := by rw [hb]; exact d4
  have hstr' : vk_R own is text sa s' := vk_R.warm hW0 hstr
  obtain ⟨U, hsteps, hrun, hend, hW, hsame, ce, hce, hO⟩ := X₁.ctorThrowS hexec htr (own := own) (cls := cls) (names := names) (ic := ic) hown' hcls hnames h (fun x hx => nomatch hx) hfX hkX hcellA (by rw [hhp, hT]; exact Nat.le_refl _) (msg := .ref sa) rfl
    (g := { method := m, pc := pc + 7, locals := ls, stack := .ref sa :: .ref T.heap.size :: .ref T.heap.size :: rest, locked := none }) rfl hsize rfl rfl (rest := rest) rfl
    (by rw [hb]; exact d7) (by rw [hb]; exact d10) hout hRframes (by simp only [List.map_cons, List.sum_cons, hcat]; omega) hlocks
  obtain ⟨f1, f2⟩ := vx_frame hsame
  rw [hhp] at f1 f2
  have hWs : s.WarmedH U.vm := State.WarmedH.trans hW0 hW
  have hcl : s.vm.findClass cls = some ce.cls := by
    have h9 := hO.cls
    rw [hvm] at h9
    exact h9
  have hall : s.sameButNew ({ U with vm := s.vm } : State) locs mc ms := by
    subst hA
    obtain ⟨e1, e2⟩ := hsame
    rw [State.setFrames_setFrames] at e1
    have h2 : (T.setVm s.vm).sameButNew ({ U with vm := s.vm } : State) [] (0 + 1) (0 + 6) := ⟨e1, e2⟩
    have h3 := X.same.trans h2
    rw [List.append_nil] at h3
    exact h3.mono hc hs
  refine ⟨U, ?_, .threw T.heap.size, hrun, hend, Or.inr ⟨T.heap.size, rfl, cls, ce, locs, hx U hWs.alike f1 (fun q hq => f2 q hq (fun z hz => nomatch hz)), hce, hO.vm, hcl, hWs, hall, hf⟩⟩
  refine st1 _ ?_
  show Steps p.tables e below (T1.setTop { method := m, pc := pc + 3, locals := ls, stack := .ref T.heap.size :: rest, locked := none }) _
  jvm_step X₁.here [X₁.here.top, hexec, d3', Value.category]
  exact X₁.ldcStringW hexec (own := own) (text := text) (index := is) (a := sa) hown' hstr'.1 hstr'.2
    (g := { method := m, pc := pc + 4, locals := ls, stack := .ref T.heap.size :: .ref T.heap.size :: rest, locked := none }) rfl d4' _ hsteps
end Ends
section Bodies
variable {l : Launch}
theorem vx_ofW {y : MethodName} {ws ws' : List Cond} {rm : Room} {Pc : Array Value → State → Prop} {Qc : Array Value → State → Outcome → State → Prop} {XC : String → State → State → Prop} {mc ms : Nat} {free : Addr → Prop} {cc : ByteArray} {maxL : Nat} {ret : Option FieldType}
    (hy : plainName y.cls = true) (hw : ws = Cond.code y cc maxL ret :: ws')
    (body : ∀ p e s m args below meth c s₁, BodyLoose p l y (headSpec ws rm) cc maxL ret e s m args below meth c s₁ → c.maxLocals = maxL → (∀ x ∈ c.exceptionTable.toList, False) → Pc args s →
      W p l e (headSpec ws rm).room s m args below meth c s.heap [] 0 0 (vx_MQ below Qc XC args s mc ms free) (entryFrame m args maxL)) : vx_Met l y ws rm Pc Qc XC mc ms free := by
  refine MetFree.of_bodyS (code := cc) (maxLocals := maxL) (ret := ret) hy ?_ ?_
  · intro args s m h hn
    obtain ⟨meth, c, h1, h2, h3, h4, h5, h6, -, -⟩ := Cond.code_spec hn (atoms_spec (ws := ws) h _ (by rw [hw]; exact List.mem_cons_self))
    exact ⟨meth, c, h1, h2, h3, h4, h5, h6⟩
  · intro p e s m args below meth c s₁ B hml hP _
    have hh0 : s₁.heap = s.heap := by rw [B.state]; rfl
    have ht : ∀ x ∈ c.exceptionTable.toList, False := by
      obtain ⟨meth9, c9, h1, h2, -, -, -, -, h7, -⟩ := Cond.code_spec B.named (atoms_spec (ws := ws) B.pre _ (by rw [hw]; exact List.mem_cons_self))
      cases Option.some.inj (h1.symm.trans B.method)
      cases Option.some.inj (h2.symm.trans (Stand.of_body B).code)
      intro x hx
      rw [Array.isEmpty_iff.mp h7] at hx
      cases hx
    obtain ⟨t, a1, o, b1, b2, b3⟩ := body p e s m args below meth c s₁ B hml ht hP s₁ hh0 (Stand.of_body B)
    exact ⟨t, o, a1, b1, b2, b3⟩
/-- the table of a body with handlers -/
theorem vx_table {p : Program} {x y : MethodName} {S : Spec} {cc bytes : ByteArray} {maxL maxL' : Nat} {ret ret' : Option FieldType} {e : Env} {s s₁ : State} {m : MethodId} {args : Array Value} {below : List Frame} {meth : Method} {c : Code} {hh : List (Nat × Nat × Nat × Nat)}
    (B : BodyLoose p l y S cc maxL ret e s m args below meth c s₁) (h : (Cond.codeWith y bytes maxL' ret' hh).before args s = true) : c.exceptionTable.toList = tableOf hh := by
  obtain ⟨m9, meth9, c9, hn9, h1, h2, -, -, h6, -⟩ := Cond.codeWith_spec h
  cases Option.some.inj (hn9.symm.trans B.named)
  cases Option.some.inj (h1.symm.trans B.method)
  cases Option.some.inj (h2.symm.trans (Stand.of_body B).code)
  rw [← h6, table_eq]
end Bodies
end VXA
/-! ===== END ===== -/
/-! ===== BEGIN a static call of a method with an exception table ===== -/
section VXS
variable {p : Program} {l : Launch} {e : Env} {R : Room} {s : State} {m : MethodId} {args : Array Value} {below : List Frame} {meth : Method} {c : Code} {T : State} {H : Heap} {locs : List Loc} {cells slots : Nat}
abbrev vx_CSW (R : Room) (s : State) (args : Array Value) (own : String) (index : Nat) (y : MethodName) (bytes : ByteArray) (maxL : Nat) (ret : Option FieldType) (hh : List (Nat × Nat × Nat × Nat)) (ws : List Cond) (rm : Room) (mc ms n : Nat) : Prop :=
  (rm.cells = mc ∧ rm.slots = ms ∧ rm.frames + 1 ≤ R.frames ∧ 8 + (maxL + 11) + rm.locals ≤ R.locals ∧ (∀ w ∈ ws, ∀ (a' : Array Value) (U : State), s.WarmedH U.vm → w.before a' U = true) ∧ Cond.codeWith y bytes maxL ret hh ∈ ws) ∧
  (Cond.codeWith y bytes maxL ret hh).before args s = true ∧ (Cond.initialized y.cls).before args s = true ∧ (y.cls ≠ "java/lang/invoke/MethodHandle" ∧ y.cls ≠ "java/lang/invoke/VarHandle") ∧
  (∀ sig, parseMethodDescriptor y.desc = some sig → n = sig.parameters.length) ∧ (Cond.methodLink own index y).before args s = true ∧ (Cond.static y).before args s = true
theorem vx_cwSW {own : String} {index maxL mc ms : Nat} {y : MethodName} {bytes : ByteArray} {ret : Option FieldType} {hh : List (Nat × Nat × Nat × Nat)} {Ts ws ws' : List Cond} {rm : Room} (n : Nat) (ht : ∀ w ∈ Ts, w.before args s = true) (hT : GoodIn Ts (va_wsS own index y ws)) (hw : ws = Cond.codeWith y bytes maxL ret hh :: ws') (hrc : rm.cells = mc) (hrs : rm.slots = ms)
    (hd : y.cls ≠ "java/lang/invoke/MethodHandle" ∧ y.cls ≠ "java/lang/invoke/VarHandle" ∧ (parseMethodDescriptor y.desc).map (fun d => d.parameters.length) = some n) (hR : rm.frames + 1 ≤ R.frames ∧ 8 + (maxL + 11) + rm.locals ≤ R.locals) :
    vx_CSW R s args own index y bytes maxL ret hh ws rm mc ms n := by
  have ok : ∀ w ∈ va_wsS own index y ws, w.before args s = true := fun w h => ht w (hT w h).1
  have hG : GoodIn Ts ws := fun w h => hT w (by unfold va_wsS; exact List.mem_append_right _ h)
  have hc : Cond.codeWith y bytes maxL ret hh ∈ ws := by rw [hw]; exact List.mem_cons_self
  refine ⟨⟨hrc, hrs, hR.1, hR.2, pay_in ht hG, hc⟩, ht _ (hG _ hc).1, ok _ (by simp [va_wsS]), ⟨hd.1, hd.2.1⟩, fun sig h => ?_, ok _ (by simp [va_wsS]), ok _ (by simp [va_wsS])⟩
  have h2 := hd.2.2
  rw [h] at h2
  exact (Option.some.inj h2).symm
theorem vx_callSW (X : Stand p l e R s m args below meth c T locs cells slots) (hexec : p.tables.exec = Jvm.exec) {own : String} {index : Nat} {y : MethodName} {bytes : ByteArray} {maxL : Nat} {ret : Option FieldType} {hh : List (Nat × Nat × Nat × Nat)}
    (hown : s.vm.findClass own = some m.cls) (hlink : (Cond.methodLink own index y).before args s = true) (hstat : (Cond.static y).before args s = true) (hinit : (Cond.initialized y.cls).before args s = true)
    (hcode : (Cond.codeWith y bytes maxL ret hh).before args s = true) (hy : y.cls ≠ "java/lang/invoke/MethodHandle" ∧ y.cls ≠ "java/lang/invoke/VarHandle")
    {W9 : Nat} {Pre : Pt → Array Value → Prop} {Post : Pt → Array Value → Option Value → Pt → Prop} (hK : Back l R p e below s args y 3 W9 Pre Post)
    {g : JFrame} (hg : g.method = m) (hsize : g.locals.size = c.maxLocals) {argsL rest : List Value} (hlen : ∀ sig, parseMethodDescriptor y.desc = some sig → argsL.length = sig.parameters.length)
    (hstack : g.stack = argsL.reverse ++ rest) (hW : 2 * g.monitorRoom + (rest.map fun v => v.category).sum ≤ W9) (hdg : decode c.code g.pc = .ok (.invokestatic index, 3))
    (hpre : ∀ vm₁, s.WarmedH vm₁ → Pre ⟨T.setVm vm₁, locs, cells, slots⟩ argsL.toArray) :
    ∃ (v : Option Value) (vm₁ : Vm) (B : Pt), s.WarmedH vm₁ ∧ Stand p l e R s m args below meth c B.U B.locs B.cells B.slots ∧ Post ⟨T.setVm vm₁, locs, cells, slots⟩ argsL.toArray v B ∧
      ∀ target, Steps p.tables e below (B.U.setTop { g with pc := g.pc + 3, stack := v.toList ++ rest }) target → Steps p.tables e below (T.setTop g) target := by
  obtain ⟨mk, methM, cM, hnamed, hmethM, -, -, -, -, -, -, hsigM⟩ := Cond.codeWith_spec hcode
  have hstatic : methM.isStatic = true := Cond.static_spec hnamed hmethM hstat
  obtain ⟨kP, hkP, -⟩ := className_of_methodNamed hnamed
  have hinitP : kP.init = .initialized := Cond.initialized_spec (findClass_of_methodNamed hnamed) hkP hinit
  obtain ⟨vm₁, X₁, hstep₁⟩ := X.invokestatic hexec hown hlink hnamed hmethM hstatic hkP hinitP hy (g := g) hg (argsL := argsL) (rest := rest) (hlen _ hsigM) hstack hdg
  obtain ⟨v, B, X', hpost, hsteps⟩ := hK m meth c ⟨T.setVm vm₁, locs, cells, slots⟩ { g with stack := rest } (.invokestatic index) mk argsL.toArray X₁ hg hsize hdg hW (X₁.named hnamed) (hpre vm₁ X₁.warmed)
  exact ⟨v, vm₁, B, X₁.warmed, X', hpost, fun target h => hstep₁ _ fun acts => by rw [doInvoke_state]; exact hsteps.trans h⟩
theorem vx_runSW {y : MethodName} {bytes cc : ByteArray} {maxL nL mc ms n index : Nat} {ret : Option FieldType} {hh : List (Nat × Nat × Nat × Nat)} {ws : List Cond} {rm : Room} {Pc : Array Value → State → Prop} {Qc : Array Value → State → Outcome → State → Prop} {free : Addr → Prop} {Ts : List Cond} {own : String} {As rest : List Value} {g : JFrame}
    (S : CallFix p m c cc nL s args Ts own) (hM : Met l y ws rm Pc Qc mc ms free) (cw : vx_CSW R s args own index y bytes maxL ret hh ws rm mc ms n) (hp : PreS s H Pc As)
    (hg : g.method = m) (hn : As.length = n) (hsize : g.locals.size = nL) (hstack : g.stack = As.reverse ++ rest) (hW : 2 * g.monitorRoom + (rest.map fun v => v.category).sum ≤ 8) (hdg : decode cc g.pc = .ok (.invokestatic index, 3)) (hf : cells + mc ≤ R.cells ∧ slots + ms ≤ R.slots) :
    va_Run p l e R s m args below meth c H locs cells slots mc ms g rest (Qc As.toArray) (free) := by
  obtain ⟨⟨hrc, hrs, hfr, hlo, hws, hcw⟩, hcode, hini, hy, hlen, hl, hstt⟩ := cw
  have hK : Back l R p e below s args y 3 8 (PreOf R mc ms Pc) (PostOf Qc mc ms free) := va_backW (hh := hh) (bytes := bytes) (maxL := maxL) (ret := ret) hM hp.1 hrc hrs hfr hlo hws hcw (fun a' U hW => word_at hW (Or.inl (by first | rfl | simp [Cond.onTables, Cond.keeps, Cond.steady])) hini)
  obtain ⟨hx, hb, hml, ho, -⟩ := S
  intro T hT X
  obtain ⟨v, vm₁, ⟨U', l2, c2, s2⟩, hW₁, X', ⟨g', mk, t, L, e1, e2, hq, h1, hL, h2, h3⟩, st⟩ := vx_callSW X hx (hh := hh) (bytes := bytes) (maxL := maxL) (ret := ret) ho hl hstt hini hcode hy hK hg (hsize.trans hml.symm) (argsL := As) (rest := rest) (fun sig h => hn.trans (hlen sig h)) hstack hW (by rw [hb]; exact hdg)
    (fun vm₁ hW₁ => ⟨hf.1, hf.2, hp.2 (T.setVm vm₁) hT hW₁⟩)
  dsimp only [Pt.U, Pt.locs, Pt.cells, Pt.slots] at X' e1 e2 h1 h2 h3 st
  subst h1; subst h2; subst h3
  exact ⟨v, (T.setVm vm₁).calling g' mk As.toArray, t, U', L, hT, X', hL, e1, e2, hq, st⟩
/-- not caught here, past rows that name other classes: it goes on to the caller -/
theorem vx_outP {p : Program} {l : Launch} {e : Env} {R : Room} {s : State} {m : MethodId} {args : Array Value} {below : List Frame} {meth : Method} {c : Code} {H : Heap} {locs : List Loc} {cells slots : Nat} {free : Addr → Prop} {ls : Array Slot} {rest : List Value} {Qc : Array Value → State → Outcome → State → Prop} {XC : String → State → State → Prop}
    {pc : Nat} {own E : String} {ce : Cell} {q : Addr} {mc ms : Nat} (hown : s.vm.findClass own = some m.cls) (hlocks : meth.locks = false)
    (hpass : ∀ z ∈ c.exceptionTable.toList, covers z pc = false ∨ (z.catchType ≠ 0 ∧ ∃ nm : String, (Cond.classLink own z.catchType nm).before args s = true ∧ va_Nc E nm s)) (hcell : H[q]? = some ce) (hv : ce.vm = .none) (hcl : s.vm.findClass E = some ce.cls)
    (hx : ∀ t : State, t.heap = H → s.vm.Alike t.vm → XC E s t) (hf : ∀ z ∈ locs, free z.base) (hc : cells ≤ mc) (hs : slots ≤ ms) :
    vx_W p l e R s m args below meth c H locs cells slots (vx_MQ below Qc XC args s mc ms free) (F0 m pc ls rest) q := by
  intro T hT X
  have hpl : e.platform.magicAccessors = ({} : Platform).magicAccessors := by rw [X.admits.platform]
  obtain ⟨vm', hW', X', st⟩ := X.outThrough hlocks q (g := F0 m pc ls rest) rfl rfl rfl (cell := ce) (by rw [hT]; exact hcell) (by rw [hv]; rfl)
    (by obtain ⟨k9, h9, -⟩ := Vm.findClass_spec hcl; exact ⟨k9, h9⟩) (fun z hz => by
      rcases hpass z hz with h | ⟨hz0, nm, hl1, hn1⟩
      · exact Or.inl h
      · obtain ⟨c6, hc6, hcl6⟩ := Cond.classLink_spec hown hl1 e.platform hpl
        obtain ⟨a8, b8, h1, h2, h3⟩ := hn1
        cases Option.some.inj (h1.symm.trans hcl)
        cases Option.some.inj (h2.symm.trans hc6)
        exact Or.inr ⟨hz0, _, hcl6, h3⟩)
  obtain ⟨g₀, hfr⟩ := X'.frames_eq
  have hcell9 : ((T.setVm vm').setFrames (.throwing q :: below)).heap[q]? = some ce := by
    show T.heap[q]? = some ce
    rw [hT]; exact hcell
  have hend : Ended ((T.setVm vm').setFrames (.throwing q :: below)) below (.threw q) := State.frames_setFrames _ (State.cur_lt_of_frames hfr)
  refine ⟨(T.setVm vm').setFrames (.throwing q :: below), ?_, .threw q, X'.here.running, hend, Or.inr ⟨q, rfl, E, ce, locs, hx _ hT (X'.ends _).1.alike, hcell9, hv, hcl, (X'.ends _).1, (X'.ends _).2.mono hc hs, hf⟩⟩
  rw [X.pushThrowing_eq]
  exact st
/-- a thing of a world lies in the heap -/
theorem vx_lt {D : va_G} {cl : List vw_C} {ws : va_W} {H1 : Heap} (h : va_P D cl ws H1) {k : Nat} {q : Nat × va_E} (hk : ws[k]? = some q) : q.1 < H1.size := (h k q hk).lt
end VXS
/-! ===== END ===== -/
/-! ===== BEGIN methods with a table of their own: called by a name, returning or throwing ===== -/
section VXH
/-! vx_backW, vx_callVX, vx_callSX, vx_callVW, vx_runVW, vx_runVX, vx_runSX, vx_ofWH follow the same proofs as their sisters above (Free/Laws.lean, Shelf42/LK1.lean); vx_outP calls Shelf42/NT130.lean (outThrough). -/
section
variable {l : Launch} {R : Room} {p : Program} {e : Env} {below : List Frame} {s : State} {sargs : Array Value} {y : MethodName} {len W9 : Nat}
theorem vx_backW {ws : List Cond} {rm : Room} {Pc : Array Value → State → Prop} {Qc : Array Value → State → Outcome → State → Prop} {XC : String → State → State → Prop} {mc ms : Nat} {free : Addr → Prop} {bytes : ByteArray} {maxL : Nat} {ret : Option FieldType} {hh : List (Nat × Nat × Nat × Nat)}
    (hM : vx_Met l y ws rm Pc Qc XC mc ms free) (hblind : FrameBlind Pc) (hrc : rm.cells = mc) (hrs : rm.slots = ms)
    (hframes : rm.frames + 1 ≤ R.frames) (hlocals : W9 + (maxL + 11) + rm.locals ≤ R.locals)
    (hws : ∀ w ∈ ws, ∀ a' U, s.WarmedH U.vm → w.before a' U = true) (hcode : Cond.codeWith y bytes maxL ret hh ∈ ws) (hinit : ∀ a' U, s.WarmedH U.vm → (Cond.initialized y.cls).before a' U = true) :
    vx_Back l R p e below s sargs y len W9 (PreOf R mc ms Pc) (PostOf Qc mc ms free) (vx_Post XC mc ms free) := by
  intro m meth c A g ig mk a X hg hsize hdg hW hn hp
  have h1 : (headSpec ws rm).pre.before a A.U = true := atoms_intro fun w hw => hws w hw _ _ X.warmed
  have h2 : (Cond.codeWith y bytes maxL ret hh).before a A.U = true := hws _ hcode _ _ X.warmed
  have h3 : (Cond.initialized y.cls).before a A.U = true := hinit _ _ X.warmed
  have h4 : A.cells + (headSpec ws rm).room.cells ≤ R.cells := by rw [show (headSpec ws rm).room.cells = mc from hrc]; exact hp.1
  have h5 : A.slots + (headSpec ws rm).room.slots ≤ R.slots := by rw [show (headSpec ws rm).room.slots = ms from hrs]; exact hp.2.1
  have hPc : Pc a (A.U.calling g mk a) := hblind _ _ _ _ hp.2.2
  obtain ⟨U, Ls, c0, s0⟩ := A
  dsimp only [Pt.U, Pt.locs, Pt.cells, Pt.slots] at h1 h2 h3 h4 h5 X hn hPc ⊢
  obtain ⟨m9, methY, cY, hn9, hmY, hcY, -, hlY, -⟩ := Cond.codeWith_spec h2
  cases Option.some.inj (hn9.symm.trans hn)
  obtain ⟨kY, hkY, -⟩ := className_of_methodNamed hn
  have hinitY : kY.init = .initialized := Cond.initialized_spec (findClass_of_methodNamed hn) hkY h3
  have h : At U g.method c below := by rw [hg]; exact X.here
  have hlocals9 : W9 + (maxL + 11) + (headSpec ws rm).room.locals ≤ R.locals := hlocals
  have happ : (headSpec ws rm).appliesLoose y e.platform (U.calling g mk a) = true :=
    Spec.appliesLoose_calling (g := g) h hdg hn hkY hinitY
      (X.room_calling (g := g) (R' := (headSpec ws rm).room) hsize hmY hcY hframes (by rw [hlY]; omega) h4 h5) h1
  obtain ⟨mid, hmid⟩ := h.above
  have hfr : (U.setTop g).frames = (.java g :: mid) ++ below := by rw [State.frames_setTop' g h.top, hmid]; rfl
  obtain ⟨o, s₂, hsteps, -, hend, hq⟩ := Steps.callFree hM p X.admits X.cas X.clock (acts := []) hfr happ hPc trivial
  have hq' : vx_Q Qc XC mc ms free a (U.calling g mk a) o s₂ := hq
  rw [State.frames_setTop' g h.top] at hend
  obtain ⟨g₀, hg0⟩ := Option.isSome_iff_exists.mp h.top
  obtain ⟨r, hr⟩ := State.topJava?_eq_some.mp hg0
  have hr' : (({ U with heap := s₂.heap, slotsUsed := s₂.slotsUsed } : State).setVm s₂.vm).frames = .java g₀ :: r := hr
  rcases hq' with ⟨hqc, L, hfe, hL⟩ | ⟨q, rfl, E, ce, L, hx, hce, hcv, hcl, hW₂, hsm, hL⟩
  · obtain ⟨⟨v, rfl⟩, hW₂, e2, q2, q3, q4, q5, q6⟩ := id hfe
    have e3 : s₂ = ({ (U.calling g mk a).setFrames s₂.frames with heap := s₂.heap, slotsUsed := s₂.slotsUsed } : State).setVm s₂.vm := by
      have : s₂ = ({ s₂ with vm := (U.calling g mk a).vm } : State).setVm s₂.vm := rfl
      rw [e2] at this
      exact this
    obtain ⟨c₂, i₂, len₂, hc₂, hd₂, hf₂⟩ := hend
    have hW' : U.WarmedH s₂.vm := hW₂
    have hcc : c₂ = c := by
      have h1 : s₂.code? g.method = U.code? g.method := by
        rw [State.code?_eq, State.code?_eq, hW'.alike.method?]
      exact Option.some.inj (hc₂.symm.trans (h1.trans h.code))
    subst hcc
    have hlen : len₂ = len := by rw [hdg] at hd₂; cases hd₂; rfl
    subst hlen
    have hs₂ : s₂ = (({ U with heap := s₂.heap, slotsUsed := s₂.slotsUsed } : State).setVm s₂.vm).setTop { g with pc := g.pc + len₂, stack := v.toList ++ g.stack } := by
      refine e3.trans ?_
      rw [hf₂, State.calling_eq h.top, State.setFrames_setFrames, State.setTop_of_frames _ hr', hr]
      rfl
    have hsame : U.sameButNew ({ U with heap := s₂.heap, slotsUsed := s₂.slotsUsed } : State) L mc ms := by
      refine ⟨?_, q2, q3, q4, q5, q6⟩
      obtain ⟨t, ht, -⟩ := State.frames_cons hr
      show ({ U with heap := s₂.heap, slotsUsed := s₂.slotsUsed } : State) = { U.setFrames U.frames with heap := s₂.heap, slotsUsed := s₂.slotsUsed }
      rw [State.setFrames_self ht]
    subst hg
    refine Or.inl ⟨v, ⟨(({ U with heap := s₂.heap, slotsUsed := s₂.slotsUsed } : State).setVm s₂.vm), Ls ++ L, c0 + mc, s0 + ms⟩,
      ⟨X.admits, X.cas, X.clock, X.frames, X.room, X.hears, X.method, X.code, (X.here.setHeapUsed s₂.heap s₂.slotsUsed).setVm hW'.alike, X.tail, State.WarmedH.trans X.warmed hW', X.limits, X.bytes, X.same.trans (hsame.setVm s.vm)⟩,
      ⟨g, mk, s₂, L, rfl, rfl, hqc, rfl, hL, rfl, rfl⟩, ?_⟩
    show Steps p.tables e below _ ((({ U with heap := s₂.heap, slotsUsed := s₂.slotsUsed } : State).setVm s₂.vm).setTop { g with pc := g.pc + len₂, stack := v.toList ++ g.stack })
    rw [← hs₂]
    exact hsteps
  · obtain ⟨e2, q2, q3, q4, q5, q6⟩ := id hsm
    have e3 : s₂ = ({ (U.calling g mk a).setFrames s₂.frames with heap := s₂.heap, slotsUsed := s₂.slotsUsed } : State).setVm s₂.vm := by
      have : s₂ = ({ s₂ with vm := (U.calling g mk a).vm } : State).setVm s₂.vm := rfl
      rw [e2] at this
      exact this
    have hf₂ : s₂.frames = .throwing q :: .java g :: U.frames.tail := hend
    have hW' : U.WarmedH s₂.vm := hW₂
    have hs₂ : s₂ = ((({ U with heap := s₂.heap, slotsUsed := s₂.slotsUsed } : State).setVm s₂.vm).setTop g).pushFrame (.throwing q) := by
      refine e3.trans ?_
      rw [hf₂, State.calling_eq h.top, State.setFrames_setFrames, State.pushFrame, State.frames_setTop _ hr', State.setTop_of_frames _ hr', State.setFrames_setFrames, hr]
      rfl
    have hsame : U.sameButNew ({ U with heap := s₂.heap, slotsUsed := s₂.slotsUsed } : State) L mc ms := by
      refine ⟨?_, q2, q3, q4, q5, q6⟩
      obtain ⟨t, ht, -⟩ := State.frames_cons hr
      show ({ U with heap := s₂.heap, slotsUsed := s₂.slotsUsed } : State) = { U.setFrames U.frames with heap := s₂.heap, slotsUsed := s₂.slotsUsed }
      rw [State.setFrames_self ht]
    subst hg
    refine Or.inr ⟨q, ⟨(({ U with heap := s₂.heap, slotsUsed := s₂.slotsUsed } : State).setVm s₂.vm), Ls ++ L, c0 + mc, s0 + ms⟩,
      ⟨X.admits, X.cas, X.clock, X.frames, X.room, X.hears, X.method, X.code, (X.here.setHeapUsed s₂.heap s₂.slotsUsed).setVm hW'.alike, X.tail, State.WarmedH.trans X.warmed hW', X.limits, X.bytes, X.same.trans (hsame.setVm s.vm)⟩,
      ⟨g, mk, s₂, L, E, ce, rfl, rfl, hx, hce, hcv, hcl, rfl, hL, rfl, rfl⟩, ?_⟩
    show Steps p.tables e below _ (((({ U with heap := s₂.heap, slotsUsed := s₂.slotsUsed } : State).setVm s₂.vm).setTop g).pushFrame (.throwing q))
    rw [← hs₂]
    exact hsteps
end
variable {p : Program} {l : Launch} {e : Env} {R : Room} {s : State} {m : MethodId} {args : Array Value} {below : List Frame} {meth : Method} {c : Code} {T : State} {H : Heap} {locs : List Loc} {cells slots : Nat}
theorem vx_callVX (X : Stand p l e R s m args below meth c T locs cells slots) (hexec : p.tables.exec = Jvm.exec) {own C : String} {index : Nat} {y : MethodName} {bytes : ByteArray} {maxL : Nat} {ret : Option FieldType} {hh : List (Nat × Nat × Nat × Nat)}
    (hown : s.vm.findClass own = some m.cls) (hlink : (Cond.methodLink own index y).before args s = true) (hinst : (Cond.instanceMethod y).before args s = true) (hsel : (Cond.selects C y y).before args s = true)
    (hcode : (Cond.codeWith y bytes maxL ret hh).before args s = true) (hy : y.cls ≠ "java/lang/invoke/MethodHandle" ∧ y.cls ≠ "java/lang/invoke/VarHandle")
    {W9 : Nat} {Pre : Pt → Array Value → Prop} {Post : Pt → Array Value → Option Value → Pt → Prop} {PostX : Pt → Array Value → Addr → Pt → Prop} (hK : vx_Back l R p e below s args y 3 W9 Pre Post PostX)
    {b : Addr} {cellB : Cell} (hcell : T.heap[b]? = some cellB) (hobj : cellB.vm.isStatics = false) (hcls : s.vm.findClass C = some cellB.cls)
    {g : JFrame} (hg : g.method = m) (hsize : g.locals.size = c.maxLocals) {argsL rest : List Value} (hlen : ∀ sig, parseMethodDescriptor y.desc = some sig → argsL.length = sig.parameters.length)
    (hstack : g.stack = argsL.reverse ++ .ref b :: rest) (hW : 2 * g.monitorRoom + (rest.map fun v => v.category).sum ≤ W9) (hdg : decode c.code g.pc = .ok (.invokevirtual index, 3))
    (hpre : ∀ vm₁, s.WarmedH vm₁ → Pre ⟨T.setVm vm₁, locs, cells, slots⟩ (Value.ref b :: argsL).toArray) :
    (∃ (v : Option Value) (vm₁ : Vm) (B : Pt), s.WarmedH vm₁ ∧ Stand p l e R s m args below meth c B.U B.locs B.cells B.slots ∧ Post ⟨T.setVm vm₁, locs, cells, slots⟩ (Value.ref b :: argsL).toArray v B ∧
      ∀ target, Steps p.tables e below (B.U.setTop { g with pc := g.pc + 3, stack := v.toList ++ rest }) target → Steps p.tables e below (T.setTop g) target) ∨
    (∃ (q : Addr) (vm₁ : Vm) (B : Pt), s.WarmedH vm₁ ∧ Stand p l e R s m args below meth c B.U B.locs B.cells B.slots ∧ PostX ⟨T.setVm vm₁, locs, cells, slots⟩ (Value.ref b :: argsL).toArray q B ∧
      Steps p.tables e below (T.setTop g) ((B.U.setTop { g with stack := rest }).pushFrame (.throwing q))) := by
  obtain ⟨mk, methM, hnamed, hmethM, hstM, habM⟩ := Cond.instanceMethod_spec hinst
  obtain ⟨m8, methM', cM, hn8, hmethM', -, -, -, -, -, -, hsigM⟩ := Cond.codeWith_spec hcode
  cases Option.some.inj (hn8.symm.trans hnamed)
  cases hmethM.symm.trans hmethM'
  obtain ⟨c2, r2, m2, q1, q2, q3, q4, kP, hkP, hkPi⟩ := Cond.selects_spec hsel
  cases hcls.symm.trans q1
  cases (State.methodFound?_of_named hnamed hy).symm.trans q2
  cases hnamed.symm.trans q3
  have hselP : selectMethod e.platform s.vm cellB.cls mk = .method mk := by rw [Launch.admits_selectMethod X.admits]; exact q4
  obtain ⟨vm₁, X₁, hstep₁⟩ := X.invokevirtual hexec hown hlink hnamed hmethM hstM hkP hkPi hy (a := b) (cell := cellB) hcell
    (fun z h => by rw [h] at hobj; cases hobj) hselP hmethM habM hkP hkPi (g := g) hg (argsL := argsL) (rest := rest) (hlen _ hsigM) hstack hdg
  rcases hK m meth c ⟨T.setVm vm₁, locs, cells, slots⟩ { g with stack := rest } (.invokevirtual index) mk (Value.ref b :: argsL).toArray X₁ hg hsize hdg hW (X₁.named hnamed) (hpre vm₁ X₁.warmed) with ⟨v, B, X', hpost, hsteps⟩ | ⟨q, B, X', hpost, hsteps⟩
  · exact Or.inl ⟨v, vm₁, B, X₁.warmed, X', hpost, fun target h => hstep₁ _ fun acts => by rw [doInvoke_state]; exact hsteps.trans h⟩
  · exact Or.inr ⟨q, vm₁, B, X₁.warmed, X', hpost, hstep₁ _ fun acts => by rw [doInvoke_state]; exact hsteps⟩
theorem vx_callSX (X : Stand p l e R s m args below meth c T locs cells slots) (hexec : p.tables.exec = Jvm.exec) {own : String} {index : Nat} {y : MethodName} {bytes : ByteArray} {maxL : Nat} {ret : Option FieldType} {hh : List (Nat × Nat × Nat × Nat)}
    (hown : s.vm.findClass own = some m.cls) (hlink : (Cond.methodLink own index y).before args s = true) (hstat : (Cond.static y).before args s = true) (hinit : (Cond.initialized y.cls).before args s = true)
    (hcode : (Cond.codeWith y bytes maxL ret hh).before args s = true) (hy : y.cls ≠ "java/lang/invoke/MethodHandle" ∧ y.cls ≠ "java/lang/invoke/VarHandle")
    {W9 : Nat} {Pre : Pt → Array Value → Prop} {Post : Pt → Array Value → Option Value → Pt → Prop} {PostX : Pt → Array Value → Addr → Pt → Prop} (hK : vx_Back l R p e below s args y 3 W9 Pre Post PostX)
    {g : JFrame} (hg : g.method = m) (hsize : g.locals.size = c.maxLocals) {argsL rest : List Value} (hlen : ∀ sig, parseMethodDescriptor y.desc = some sig → argsL.length = sig.parameters.length)
    (hstack : g.stack = argsL.reverse ++ rest) (hW : 2 * g.monitorRoom + (rest.map fun v => v.category).sum ≤ W9) (hdg : decode c.code g.pc = .ok (.invokestatic index, 3))
    (hpre : ∀ vm₁, s.WarmedH vm₁ → Pre ⟨T.setVm vm₁, locs, cells, slots⟩ argsL.toArray) :
    (∃ (v : Option Value) (vm₁ : Vm) (B : Pt), s.WarmedH vm₁ ∧ Stand p l e R s m args below meth c B.U B.locs B.cells B.slots ∧ Post ⟨T.setVm vm₁, locs, cells, slots⟩ argsL.toArray v B ∧
      ∀ target, Steps p.tables e below (B.U.setTop { g with pc := g.pc + 3, stack := v.toList ++ rest }) target → Steps p.tables e below (T.setTop g) target) ∨
    (∃ (q : Addr) (vm₁ : Vm) (B : Pt), s.WarmedH vm₁ ∧ Stand p l e R s m args below meth c B.U B.locs B.cells B.slots ∧ PostX ⟨T.setVm vm₁, locs, cells, slots⟩ argsL.toArray q B ∧
      Steps p.tables e below (T.setTop g) ((B.U.setTop { g with stack := rest }).pushFrame (.throwing q))) := by
  obtain ⟨mk, methM, cM, hnamed, hmethM, -, -, -, -, -, -, hsigM⟩ := Cond.codeWith_spec hcode
  have hstatic : methM.isStatic = true := Cond.static_spec hnamed hmethM hstat
  obtain ⟨kP, hkP, -⟩ := className_of_methodNamed hnamed
  have hinitP : kP.init = .initialized := Cond.initialized_spec (findClass_of_methodNamed hnamed) hkP hinit
  obtain ⟨vm₁, X₁, hstep₁⟩ := X.invokestatic hexec hown hlink hnamed hmethM hstatic hkP hinitP hy (g := g) hg (argsL := argsL) (rest := rest) (hlen _ hsigM) hstack hdg
  rcases hK m meth c ⟨T.setVm vm₁, locs, cells, slots⟩ { g with stack := rest } (.invokestatic index) mk argsL.toArray X₁ hg hsize hdg hW (X₁.named hnamed) (hpre vm₁ X₁.warmed) with ⟨v, B, X', hpost, hsteps⟩ | ⟨q, B, X', hpost, hsteps⟩
  · exact Or.inl ⟨v, vm₁, B, X₁.warmed, X', hpost, fun target h => hstep₁ _ fun acts => by rw [doInvoke_state]; exact hsteps.trans h⟩
  · exact Or.inr ⟨q, vm₁, B, X₁.warmed, X', hpost, hstep₁ _ fun acts => by rw [doInvoke_state]; exact hsteps⟩
theorem vx_callVW (X : Stand p l e R s m args below meth c T locs cells slots) (hexec : p.tables.exec = Jvm.exec) {own C : String} {index : Nat} {y : MethodName} {bytes : ByteArray} {maxL : Nat} {ret : Option FieldType} {hh : List (Nat × Nat × Nat × Nat)}
    (hown : s.vm.findClass own = some m.cls) (hlink : (Cond.methodLink own index y).before args s = true) (hinst : (Cond.instanceMethod y).before args s = true) (hsel : (Cond.selects C y y).before args s = true)
    (hcode : (Cond.codeWith y bytes maxL ret hh).before args s = true) (hy : y.cls ≠ "java/lang/invoke/MethodHandle" ∧ y.cls ≠ "java/lang/invoke/VarHandle")
    {W9 : Nat} {Pre : Pt → Array Value → Prop} {Post : Pt → Array Value → Option Value → Pt → Prop} (hK : Back l R p e below s args y 3 W9 Pre Post)
    {b : Addr} {cellB : Cell} (hcell : T.heap[b]? = some cellB) (hobj : cellB.vm.isStatics = false) (hcls : s.vm.findClass C = some cellB.cls)
    {g : JFrame} (hg : g.method = m) (hsize : g.locals.size = c.maxLocals) {argsL rest : List Value} (hlen : ∀ sig, parseMethodDescriptor y.desc = some sig → argsL.length = sig.parameters.length)
    (hstack : g.stack = argsL.reverse ++ .ref b :: rest) (hW : 2 * g.monitorRoom + (rest.map fun v => v.category).sum ≤ W9) (hdg : decode c.code g.pc = .ok (.invokevirtual index, 3))
    (hpre : ∀ vm₁, s.WarmedH vm₁ → Pre ⟨T.setVm vm₁, locs, cells, slots⟩ (Value.ref b :: argsL).toArray) :
    ∃ (v : Option Value) (vm₁ : Vm) (B : Pt), s.WarmedH vm₁ ∧ Stand p l e R s m args below meth c B.U B.locs B.cells B.slots ∧ Post ⟨T.setVm vm₁, locs, cells, slots⟩ (Value.ref b :: argsL).toArray v B ∧
      ∀ target, Steps p.tables e below (B.U.setTop { g with pc := g.pc + 3, stack := v.toList ++ rest }) target → Steps p.tables e below (T.setTop g) target := by
  obtain ⟨mk, methM, hnamed, hmethM, hstM, habM⟩ := Cond.instanceMethod_spec hinst
  obtain ⟨m8, methM', cM, hn8, hmethM', -, -, -, -, -, -, hsigM⟩ := Cond.codeWith_spec hcode
  cases Option.some.inj (hn8.symm.trans hnamed)
  cases hmethM.symm.trans hmethM'
  obtain ⟨c2, r2, m2, q1, q2, q3, q4, kP, hkP, hkPi⟩ := Cond.selects_spec hsel
  cases hcls.symm.trans q1
  cases (State.methodFound?_of_named hnamed hy).symm.trans q2
  cases hnamed.symm.trans q3
  have hselP : selectMethod e.platform s.vm cellB.cls mk = .method mk := by rw [Launch.admits_selectMethod X.admits]; exact q4
  obtain ⟨vm₁, X₁, hstep₁⟩ := X.invokevirtual hexec hown hlink hnamed hmethM hstM hkP hkPi hy (a := b) (cell := cellB) hcell
    (fun z h => by rw [h] at hobj; cases hobj) hselP hmethM habM hkP hkPi (g := g) hg (argsL := argsL) (rest := rest) (hlen _ hsigM) hstack hdg
  obtain ⟨v, B, X', hpost, hsteps⟩ := hK m meth c ⟨T.setVm vm₁, locs, cells, slots⟩ { g with stack := rest } (.invokevirtual index) mk (Value.ref b :: argsL).toArray X₁ hg hsize hdg hW (X₁.named hnamed) (hpre vm₁ X₁.warmed)
  exact ⟨v, vm₁, B, X₁.warmed, X', hpost, fun target h => hstep₁ _ fun acts => by rw [doInvoke_state]; exact hsteps.trans h⟩
abbrev vx_CVW (R : Room) (s : State) (args : Array Value) (own C : String) (index : Nat) (y : MethodName) (bytes : ByteArray) (maxL : Nat) (ret : Option FieldType) (hh : List (Nat × Nat × Nat × Nat)) (ws : List Cond) (rm : Room) (mc ms n : Nat) : Prop :=
  (rm.cells = mc ∧ rm.slots = ms ∧ rm.frames + 1 ≤ R.frames ∧ 8 + (maxL + 11) + rm.locals ≤ R.locals ∧ (∀ w ∈ ws, ∀ (a' : Array Value) (U : State), s.WarmedH U.vm → w.before a' U = true) ∧ Cond.codeWith y bytes maxL ret hh ∈ ws) ∧
  (Cond.codeWith y bytes maxL ret hh).before args s = true ∧ (Cond.initialized y.cls).before args s = true ∧ (y.cls ≠ "java/lang/invoke/MethodHandle" ∧ y.cls ≠ "java/lang/invoke/VarHandle") ∧
  (∀ sig, parseMethodDescriptor y.desc = some sig → n = sig.parameters.length) ∧ (Cond.methodLink own index y).before args s = true ∧ (Cond.instanceMethod y).before args s = true ∧ (Cond.selects C y y).before args s = true
theorem vx_cwVW {own C : String} {index maxL mc ms : Nat} {y : MethodName} {bytes : ByteArray} {ret : Option FieldType} {hh : List (Nat × Nat × Nat × Nat)} {Ts ws ws' : List Cond} {rm : Room} (n : Nat) (ht : ∀ w ∈ Ts, w.before args s = true) (hT : GoodIn Ts (wsV own index C y ws)) (hw : ws = Cond.codeWith y bytes maxL ret hh :: ws') (hrc : rm.cells = mc) (hrs : rm.slots = ms)
    (hd : y.cls = C ∧ y.cls ≠ "java/lang/invoke/MethodHandle" ∧ y.cls ≠ "java/lang/invoke/VarHandle" ∧ (parseMethodDescriptor y.desc).map (fun d => d.parameters.length) = some n) (hR : rm.frames + 1 ≤ R.frames ∧ 8 + (maxL + 11) + rm.locals ≤ R.locals) :
    vx_CVW R s args own C index y bytes maxL ret hh ws rm mc ms n := by
  obtain ⟨hC, hd⟩ := hd
  subst hC
  have ok : ∀ w ∈ wsV own index y.cls y ws, w.before args s = true := fun w h => ht w (hT w h).1
  have hG : GoodIn Ts ws := fun w h => hT w (by unfold wsV; exact List.mem_append_right _ h)
  have hc : Cond.codeWith y bytes maxL ret hh ∈ ws := by rw [hw]; exact List.mem_cons_self
  refine ⟨⟨hrc, hrs, hR.1, hR.2, pay_in ht hG, hc⟩, ht _ (hG _ hc).1, ok _ (by simp [wsV]), ⟨hd.1, hd.2.1⟩, fun sig h => ?_, ok _ (by simp [wsV]), ok _ (by simp [wsV]), ok _ (by simp [wsV])⟩
  have h2 := hd.2.2
  rw [h] at h2
  exact (Option.some.inj h2).symm
theorem vx_runVW {y : MethodName} {bytes cc : ByteArray} {maxL nL mc ms n index : Nat} {ret : Option FieldType} {hh : List (Nat × Nat × Nat × Nat)} {ws : List Cond} {rm : Room} {Pc : Array Value → State → Prop} {Qc : Array Value → State → Outcome → State → Prop} {free : Addr → Prop} {Ts : List Cond} {own C : String} {b : Addr} {As rest : List Value} {g : JFrame}
    (S : CallFix p m c cc nL s args Ts own) (hM : Met l y ws rm Pc Qc mc ms free) (cw : vx_CVW R s args own C index y bytes maxL ret hh ws rm mc ms n) (hp : PreV s H C b Pc As)
    (hg : g.method = m) (hn : As.length = n) (hsize : g.locals.size = nL) (hstack : g.stack = As.reverse ++ .ref b :: rest) (hW : 2 * g.monitorRoom + (rest.map fun v => v.category).sum ≤ 8) (hdg : decode cc g.pc = .ok (.invokevirtual index, 3)) (hf : cells + mc ≤ R.cells ∧ slots + ms ≤ R.slots) :
    va_Run p l e R s m args below meth c H locs cells slots mc ms g rest (Qc (Value.ref b :: As).toArray) free := by
  obtain ⟨⟨hrc, hrs, hfr, hlo, hws, hcw⟩, hcode, hini, hy, hlen, hl, hin, hse⟩ := cw
  have hK : Back l R p e below s args y 3 8 (PreOf R mc ms Pc) (PostOf Qc mc ms free) := va_backW (hh := hh) (bytes := bytes) (maxL := maxL) (ret := ret) hM hp.1 hrc hrs hfr hlo hws hcw (fun a' U hW => word_at hW (Or.inl (by first | rfl | simp [Cond.onTables, Cond.keeps, Cond.steady])) hini)
  obtain ⟨hx, hb, hml, ho, -⟩ := S
  obtain ⟨-, ⟨cellB, hcB, hoB, hclB⟩, hPc⟩ := hp
  intro T hT X
  obtain ⟨v, vm₁, ⟨U', l2, c2, s2⟩, hW₁, X', ⟨g', mk, t, L, e1, e2, hq, h1, hL, h2, h3⟩, st⟩ := vx_callVW X hx (C := C) (hh := hh) (bytes := bytes) (maxL := maxL) (ret := ret) ho hl hin hse hcode hy hK (by rw [hT]; exact hcB) hoB hclB hg (hsize.trans hml.symm) (argsL := As) (rest := rest) (fun sig h => hn.trans (hlen sig h)) hstack hW (by rw [hb]; exact hdg)
    (fun vm₁ hW₁ => ⟨hf.1, hf.2, hPc (T.setVm vm₁) hT hW₁⟩)
  dsimp only [Pt.U, Pt.locs, Pt.cells, Pt.slots] at X' e1 e2 h1 h2 h3 st
  subst h1; subst h2; subst h3
  exact ⟨v, (T.setVm vm₁).calling g' mk (Value.ref b :: As).toArray, t, U', L, hT, X', hL, e1, e2, hq, st⟩
section
variable {y : MethodName} {bytes cc : ByteArray} {maxL nL mc ms n index : Nat} {ret : Option FieldType} {ws : List Cond} {rm : Room} {Pc : Array Value → State → Prop} {Qc : Array Value → State → Outcome → State → Prop} {XC : String → State → State → Prop} {free : Addr → Prop} {Ts : List Cond} {own C : String} {b : Addr} {As rest : List Value} {g : JFrame}
theorem vx_runVX {hh : List (Nat × Nat × Nat × Nat)} (S : CallFix p m c cc nL s args Ts own) (hM : vx_Met l y ws rm Pc Qc XC mc ms free) (cw : vx_CVW R s args own C index y bytes maxL ret hh ws rm mc ms n) (hp : PreV s H C b Pc As)
    (hg : g.method = m) (hn : As.length = n) (hsize : g.locals.size = nL) (hstack : g.stack = As.reverse ++ .ref b :: rest) (hW : 2 * g.monitorRoom + (rest.map fun v => v.category).sum ≤ 8) (hdg : decode cc g.pc = .ok (.invokevirtual index, 3)) (hf : cells + mc ≤ R.cells ∧ slots + ms ≤ R.slots) :
    vx_Run p l e R s m args below meth c H locs cells slots mc ms g rest (Qc (Value.ref b :: As).toArray) XC free := by
  obtain ⟨⟨hrc, hrs, hfr, hlo, hws, hcw⟩, hcode, hini, hy, hlen, hl, hin, hse⟩ := cw
  have hK : vx_Back l R p e below s args y 3 8 (PreOf R mc ms Pc) (PostOf Qc mc ms free) (vx_Post XC mc ms free) := vx_backW (hh := hh) (bytes := bytes) (maxL := maxL) (ret := ret) hM hp.1 hrc hrs hfr hlo hws hcw (fun a' U hW => word_at hW (Or.inl (by first | rfl | simp [Cond.onTables, Cond.keeps, Cond.steady])) hini)
  obtain ⟨hx, hb, hml, ho, -⟩ := S
  obtain ⟨-, ⟨cellB, hcB, hoB, hclB⟩, hPc⟩ := hp
  intro T hT X
  rcases vx_callVX X hx (C := C) (hh := hh) (bytes := bytes) (maxL := maxL) (ret := ret) ho hl hin hse hcode hy hK (by rw [hT]; exact hcB) hoB hclB hg (hsize.trans hml.symm) (argsL := As) (rest := rest) (fun sig h => hn.trans (hlen sig h)) hstack hW (by rw [hb]; exact hdg)
    (fun vm₁ hW₁ => ⟨hf.1, hf.2, hPc (T.setVm vm₁) hT hW₁⟩) with ⟨v, vm₁, ⟨U', l2, c2, s2⟩, hW₁, X', ⟨g', mk, t, L, e1, e2, hq, h1, hL, h2, h3⟩, st⟩ | ⟨q, vm₁, ⟨U', l2, c2, s2⟩, hW₁, X', ⟨g', mk, t, L, E, ce, e1, e2, hq, hce, hcv, hcl, h1, hL, h2, h3⟩, st⟩
  · dsimp only [Pt.U, Pt.locs, Pt.cells, Pt.slots] at X' e1 e2 h1 h2 h3 st
    subst h1; subst h2; subst h3
    exact Or.inl ⟨v, (T.setVm vm₁).calling g' mk (Value.ref b :: As).toArray, t, U', L, hT, X', hL, e1, e2, hq, st⟩
  · dsimp only [Pt.U, Pt.locs, Pt.cells, Pt.slots] at X' e1 e2 h1 h2 h3 st hcl
    subst h1; subst h2; subst h3
    exact Or.inr ⟨q, (T.setVm vm₁).calling g' mk (Value.ref b :: As).toArray, t, U', L, E, ce, hT, X', hL, e1, e2, hq, hce, hcv, vx_cls hW₁ hcl, st⟩
theorem vx_runSX {hh : List (Nat × Nat × Nat × Nat)} (S : CallFix p m c cc nL s args Ts own) (hM : vx_Met l y ws rm Pc Qc XC mc ms free) (cw : vx_CSW R s args own index y bytes maxL ret hh ws rm mc ms n) (hp : PreS s H Pc As)
    (hg : g.method = m) (hn : As.length = n) (hsize : g.locals.size = nL) (hstack : g.stack = As.reverse ++ rest) (hW : 2 * g.monitorRoom + (rest.map fun v => v.category).sum ≤ 8) (hdg : decode cc g.pc = .ok (.invokestatic index, 3)) (hf : cells + mc ≤ R.cells ∧ slots + ms ≤ R.slots) :
    vx_Run p l e R s m args below meth c H locs cells slots mc ms g rest (Qc As.toArray) XC free := by
  obtain ⟨⟨hrc, hrs, hfr, hlo, hws, hcw⟩, hcode, hini, hy, hlen, hl, hstt⟩ := cw
  have hK : vx_Back l R p e below s args y 3 8 (PreOf R mc ms Pc) (PostOf Qc mc ms free) (vx_Post XC mc ms free) := vx_backW (hh := hh) (bytes := bytes) (maxL := maxL) (ret := ret) hM hp.1 hrc hrs hfr hlo hws hcw (fun a' U hW => word_at hW (Or.inl (by first | rfl | simp [Cond.onTables, Cond.keeps, Cond.steady])) hini)
  obtain ⟨hx, hb, hml, ho, -⟩ := S
  intro T hT X
  rcases vx_callSX X hx (hh := hh) (bytes := bytes) (maxL := maxL) (ret := ret) ho hl hstt hini hcode hy hK hg (hsize.trans hml.symm) (argsL := As) (rest := rest) (fun sig h => hn.trans (hlen sig h)) hstack hW (by rw [hb]; exact hdg)
    (fun vm₁ hW₁ => ⟨hf.1, hf.2, hp.2 (T.setVm vm₁) hT hW₁⟩) with ⟨v, vm₁, ⟨U', l2, c2, s2⟩, hW₁, X', ⟨g', mk, t, L, e1, e2, hq, h1, hL, h2, h3⟩, st⟩ | ⟨q, vm₁, ⟨U', l2, c2, s2⟩, hW₁, X', ⟨g', mk, t, L, E, ce, e1, e2, hq, hce, hcv, hcl, h1, hL, h2, h3⟩, st⟩
  · dsimp only [Pt.U, Pt.locs, Pt.cells, Pt.slots] at X' e1 e2 h1 h2 h3 st
    subst h1; subst h2; subst h3
    exact Or.inl ⟨v, (T.setVm vm₁).calling g' mk As.toArray, t, U', L, hT, X', hL, e1, e2, hq, st⟩
  · dsimp only [Pt.U, Pt.locs, Pt.cells, Pt.slots] at X' e1 e2 h1 h2 h3 st hcl
    subst h1; subst h2; subst h3
    exact Or.inr ⟨q, (T.setVm vm₁).calling g' mk As.toArray, t, U', L, E, ce, hT, X', hL, e1, e2, hq, hce, hcv, vx_cls hW₁ hcl, st⟩
end
end VXH
theorem vx_ofWH {l : Launch} {y : MethodName} {ws ws' : List Cond} {rm : Room} {Pc : Array Value → State → Prop} {Qc : Array Value → State → Outcome → State → Prop} {XC : String → State → State → Prop} {mc ms : Nat} {free : Addr → Prop} {cc : ByteArray} {maxL : Nat} {ret : Option FieldType} {hh : List (Nat × Nat × Nat × Nat)}
    (hy : plainName y.cls = true) (hw : ws = Cond.codeWith y cc maxL ret hh :: ws')
    (body : ∀ p e s m args below meth c s₁, BodyLoose p l y (headSpec ws rm) cc maxL ret e s m args below meth c s₁ → c.maxLocals = maxL → Pc args s →
      W p l e (headSpec ws rm).room s m args below meth c s.heap [] 0 0 (vx_MQ below Qc XC args s mc ms free) (entryFrame m args maxL)) : vx_Met l y ws rm Pc Qc XC mc ms free := by
  refine MetFree.of_bodyS (code := cc) (maxLocals := maxL) (ret := ret) hy ?_ ?_
  · intro args s m h hn
    obtain ⟨m9, meth, c, hn9, h1, h2, h3, h4, -, h5, h6, -⟩ := Cond.codeWith_spec (atoms_spec (ws := ws) h _ (by rw [hw]; exact List.mem_cons_self))
    cases hn.symm.trans hn9
    exact ⟨meth, c, h1, h2, h3, h4, h5, h6⟩
  · intro p e s m args below meth c s₁ B hml hP _
    have hh0 : s₁.heap = s.heap := by rw [B.state]; rfl
    obtain ⟨t, a1, o, b1, b2, b3⟩ := body p e s m args below meth c s₁ B hml hP s₁ hh0 (Stand.of_body B)
    exact ⟨t, o, a1, b1, b2, b3⟩
/-! ===== END ===== -/

/-! ===== BEGIN printed: names, fields, word lists, decode rows ===== -/
def RX0 : String := "HostKeyring$Certificate"
def TX0 : u_T := fun k => match k with
  | 0 => ("HostKeyring$Certificate", "authority", "I", true)
  | 1 => ("HostKeyring$Certificate", "key", "I", true)
  | 2 => ("HostKeyring$Certificate", "name", "I", true)
  | 3 => ("HostKeyring$Certificate", "places", "I", true)
  | 4 => ("HostKeyring$Certificate", "serial", "I", true)
  | 5 => ("HostKeyring$Certificate", "first", "I", true)
  | _ => ("HostKeyring$Certificate", "last", "I", true)
def tyX0 : Nat → FieldType := fun k => match k with
  | 0 => .int
  | 1 => .int
  | 2 => .int
  | 3 => .int
  | 4 => .int
  | 5 => .int
  | _ => .int
abbrev wsX00 : List Cond := u_ws RX0 TX0 7
theorem nmX0 : ∀ a, a < 7 → ∀ b, b < 7 → a ≠ b → (TX0 a).2.1 ≠ (TX0 b).2.1 := by decide +kernel
theorem tyX0_ok : ∀ k, k < 7 → parseFieldDescriptor (TX0 k).2.2.1 = some (tyX0 k) := by decide +kernel
abbrev cX0_init : ByteArray := prog_2_method_1_code
def yX0_init : MethodName := ⟨RX0, "<init>", "(IIIIIII)V"⟩
def RX1 : String := "HostKeyring$Line"
def TX1 : u_T := fun k => match k with
  | 0 => ("HostKeyring$Line", "mark", "I", false)
  | 1 => ("HostKeyring$Line", "key", "I", false)
  | 2 => ("HostKeyring$Line", "seen", "I", false)
  | 3 => ("HostKeyring$Line", "end", "I", false)
  | 4 => ("HostKeyring$Line", "patterns", "[LHostKeyring$Pattern;", true)
  | 5 => ("HostKeyring$Line", "patternCount", "I", false)
  | 6 => ("HostKeyring$Line", "isHashed", "Z", false)
  | 7 => ("HostKeyring$Line", "hash", "I", false)
  | 8 => ("HostKeyring$Line", "hashSalt", "I", false)
  | _ => ("HostKeyring$Line", "hashPort", "I", false)
def tyX1 : Nat → FieldType := fun k => match k with
  | 0 => .int
  | 1 => .int
  | 2 => .int
  | 3 => .int
  | 4 => .array (.object "HostKeyring$Pattern")
  | 5 => .int
  | 6 => .boolean
  | 7 => .int
  | 8 => .int
  | _ => .int
abbrev wsX10 : List Cond := u_ws RX1 TX1 10
theorem nmX1 : ∀ a, a < 10 → ∀ b, b < 10 → a ≠ b → (TX1 a).2.1 ≠ (TX1 b).2.1 := by decide +kernel
theorem tyX1_ok : ∀ k, k < 10 → parseFieldDescriptor (TX1 k).2.2.1 = some (tyX1 k) := by decide +kernel
abbrev cX1_init : ByteArray := prog_3_method_1_code
def yX1_init : MethodName := ⟨RX1, "<init>", "()V"⟩
abbrev cX1_begin : ByteArray := prog_3_method_2_code
def yX1_begin : MethodName := ⟨RX1, "begin", "(III)V"⟩
abbrev cX1_takePattern : ByteArray := prog_3_method_3_code
def yX1_takePattern : MethodName := ⟨RX1, "takePattern", "(IIIZ)I"⟩
abbrev cX1_takeHash : ByteArray := prog_3_method_4_code
def yX1_takeHash : MethodName := ⟨RX1, "takeHash", "(III)V"⟩
abbrev cX1_takeMatching : ByteArray := prog_3_method_5_code
def yX1_takeMatching : MethodName := ⟨RX1, "takeMatching", "(LHostKeyring$Line;)V"⟩
abbrev cX1_endBy : ByteArray := prog_3_method_6_code
def yX1_endBy : MethodName := ⟨RX1, "endBy", "(I)V"⟩
abbrev cX1_hasEnded : ByteArray := prog_3_method_7_code
def yX1_hasEnded : MethodName := ⟨RX1, "hasEnded", "(I)Z"⟩
abbrev cX1_hasEither : ByteArray := prog_3_method_8_code
def yX1_hasEither : MethodName := ⟨RX1, "hasEither", "(II)Z"⟩
abbrev cX1_covers : ByteArray := prog_3_method_9_code
def yX1_covers : MethodName := ⟨RX1, "covers", "(II)Z"⟩
abbrev cX1_hashOf : ByteArray := prog_3_method_10_code
def yX1_hashOf : MethodName := ⟨RX1, "hashOf", "(II)I"⟩
def RX2 : String := "HostKeyring$Pattern"
def TX2 : u_T := fun k => match k with
  | 0 => ("HostKeyring$Pattern", "name", "I", true)
  | 1 => ("HostKeyring$Pattern", "places", "I", true)
  | 2 => ("HostKeyring$Pattern", "port", "I", true)
  | _ => ("HostKeyring$Pattern", "isDenied", "Z", true)
def tyX2 : Nat → FieldType := fun k => match k with
  | 0 => .int
  | 1 => .int
  | 2 => .int
  | _ => .boolean
abbrev wsX20 : List Cond := u_ws RX2 TX2 4
theorem nmX2 : ∀ a, a < 4 → ∀ b, b < 4 → a ≠ b → (TX2 a).2.1 ≠ (TX2 b).2.1 := by decide +kernel
theorem tyX2_ok : ∀ k, k < 4 → parseFieldDescriptor (TX2 k).2.2.1 = some (tyX2 k) := by decide +kernel
abbrev cX2_init : ByteArray := prog_4_method_1_code
def yX2_init : MethodName := ⟨RX2, "<init>", "(IIIZ)V"⟩
abbrev cX2_fits : ByteArray := prog_4_method_2_code
def yX2_fits : MethodName := ⟨RX2, "fits", "(II)Z"⟩
def RX3 : String := "HostKeyring$Span"
def TX3 : u_T := fun k => match k with
  | 0 => ("HostKeyring$Span", "authority", "I", true)
  | 1 => ("HostKeyring$Span", "from", "I", true)
  | _ => ("HostKeyring$Span", "to", "I", true)
def tyX3 : Nat → FieldType := fun k => match k with
  | 0 => .int
  | 1 => .int
  | _ => .int
abbrev wsX30 : List Cond := u_ws RX3 TX3 3
theorem nmX3 : ∀ a, a < 3 → ∀ b, b < 3 → a ≠ b → (TX3 a).2.1 ≠ (TX3 b).2.1 := by decide +kernel
theorem tyX3_ok : ∀ k, k < 3 → parseFieldDescriptor (TX3 k).2.2.1 = some (tyX3 k) := by decide +kernel
abbrev cX3_init : ByteArray := prog_5_method_1_code
def yX3_init : MethodName := ⟨RX3, "<init>", "(III)V"⟩
abbrev cX3_holds : ByteArray := prog_5_method_2_code
def yX3_holds : MethodName := ⟨RX3, "holds", "(II)Z"⟩
def RX4 : String := "HostKeyring"
def TX4 : u_T := fun k => match k with
  | 0 => ("HostKeyring", "book", "[LHostKeyring$Line;", true)
  | 1 => ("HostKeyring", "lineCount", "I", false)
  | 2 => ("HostKeyring", "certificates", "[LHostKeyring$Certificate;", true)
  | 3 => ("HostKeyring", "certificateCount", "I", false)
  | 4 => ("HostKeyring", "spans", "[LHostKeyring$Span;", true)
  | 5 => ("HostKeyring", "spanCount", "I", false)
  | 6 => ("HostKeyring", "day", "I", false)
  | 7 => ("HostKeyring", "firstSight", "I", false)
  | 8 => ("HostKeyring", "isHashing", "Z", false)
  | 9 => ("HostKeyring", "waitingName", "I", false)
  | 10 => ("HostKeyring", "waitingPort", "I", false)
  | _ => ("HostKeyring", "waitingKey", "I", false)
def tyX4 : Nat → FieldType := fun k => match k with
  | 0 => .array (.object "HostKeyring$Line")
  | 1 => .int
  | 2 => .array (.object "HostKeyring$Certificate")
  | 3 => .int
  | 4 => .array (.object "HostKeyring$Span")
  | 5 => .int
  | 6 => .int
  | 7 => .int
  | 8 => .boolean
  | 9 => .int
  | 10 => .int
  | _ => .int
abbrev wsX40 : List Cond := u_ws RX4 TX4 12
theorem nmX4 : ∀ a, a < 12 → ∀ b, b < 12 → a ≠ b → (TX4 a).2.1 ≠ (TX4 b).2.1 := by decide +kernel
theorem tyX4_ok : ∀ k, k < 12 → parseFieldDescriptor (TX4 k).2.2.1 = some (tyX4 k) := by decide +kernel
abbrev cX4_init : ByteArray := prog_1_method_1_code
def yX4_init : MethodName := ⟨RX4, "<init>", "()V"⟩
abbrev cX4_addLine : ByteArray := prog_1_method_2_code
def yX4_addLine : MethodName := ⟨RX4, "addLine", "(II)I"⟩
abbrev cX4_addPattern : ByteArray := prog_1_method_3_code
def yX4_addPattern : MethodName := ⟨RX4, "addPattern", "(IIIIZ)I"⟩
abbrev cX4_addHashed : ByteArray := prog_1_method_4_code
def yX4_addHashed : MethodName := ⟨RX4, "addHashed", "(IIIII)I"⟩
abbrev cX4_remove : ByteArray := prog_1_method_5_code
def yX4_remove : MethodName := ⟨RX4, "remove", "(I)I"⟩
abbrev cX4_certify : ByteArray := prog_1_method_6_code
def yX4_certify : MethodName := ⟨RX4, "certify", "(IIIIIII)I"⟩
abbrev cX4_revokeSpan : ByteArray := prog_1_method_7_code
def yX4_revokeSpan : MethodName := ⟨RX4, "revokeSpan", "(III)I"⟩
abbrev cX4_setFirstSight : ByteArray := prog_1_method_8_code
def yX4_setFirstSight : MethodName := ⟨RX4, "setFirstSight", "(IZ)I"⟩
abbrev cX4_answer : ByteArray := prog_1_method_9_code
def yX4_answer : MethodName := ⟨RX4, "answer", "(IIII)I"⟩
abbrev cX4_confirm : ByteArray := prog_1_method_10_code
def yX4_confirm : MethodName := ⟨RX4, "confirm", "()I"⟩
abbrev cX4_turn : ByteArray := prog_1_method_11_code
def yX4_turn : MethodName := ⟨RX4, "turn", "(IIIII)I"⟩
abbrev cX4_pass : ByteArray := prog_1_method_12_code
def yX4_pass : MethodName := ⟨RX4, "pass", "(I)I"⟩
abbrev cX4_clean : ByteArray := prog_1_method_13_code
def yX4_clean : MethodName := ⟨RX4, "clean", "(I)I"⟩
abbrev cX4_judge : ByteArray := prog_1_method_14_code
def yX4_judge : MethodName := ⟨RX4, "judge", "(IIII)I"⟩
abbrev cX4_judgeByReading : ByteArray := prog_1_method_15_code
def yX4_judgeByReading : MethodName := ⟨RX4, "judgeByReading", "(III)I"⟩
abbrev cX4_day : ByteArray := prog_1_method_16_code
def yX4_day : MethodName := ⟨RX4, "day", "()I"⟩
abbrev cX4_lines : ByteArray := prog_1_method_17_code
def yX4_lines : MethodName := ⟨RX4, "lines", "()I"⟩
abbrev cX4_keyOf : ByteArray := prog_1_method_18_code
def yX4_keyOf : MethodName := ⟨RX4, "keyOf", "(I)I"⟩
abbrev cX4_seen : ByteArray := prog_1_method_19_code
def yX4_seen : MethodName := ⟨RX4, "seen", "(I)I"⟩
abbrev cX4_end : ByteArray := prog_1_method_20_code
def yX4_end : MethodName := ⟨RX4, "end", "(I)I"⟩
abbrev cX4_matches : ByteArray := prog_1_method_21_code
def yX4_matches : MethodName := ⟨RX4, "matches", "(III)Z"⟩
abbrev cX4_find : ByteArray := prog_1_method_22_code
def yX4_find : MethodName := ⟨RX4, "find", "(II)I"⟩
abbrev cX4_linesOf : ByteArray := prog_1_method_23_code
def yX4_linesOf : MethodName := ⟨RX4, "linesOf", "(I)J"⟩
abbrev cX4_waiting : ByteArray := prog_1_method_24_code
def yX4_waiting : MethodName := ⟨RX4, "waiting", "()I"⟩
abbrev cX4_requireWithin : ByteArray := prog_1_method_25_code
def yX4_requireWithin : MethodName := ⟨RX4, "requireWithin", "(III)V"⟩
abbrev cX4_requireKey : ByteArray := prog_1_method_26_code
def yX4_requireKey : MethodName := ⟨RX4, "requireKey", "(I)V"⟩
abbrev cX4_requireNameAndPort : ByteArray := prog_1_method_27_code
def yX4_requireNameAndPort : MethodName := ⟨RX4, "requireNameAndPort", "(II)V"⟩
abbrev cX4_lineAt : ByteArray := prog_1_method_28_code
def yX4_lineAt : MethodName := ⟨RX4, "lineAt", "(I)LHostKeyring$Line;"⟩
abbrev cX4_certificateAt : ByteArray := prog_1_method_29_code
def yX4_certificateAt : MethodName := ⟨RX4, "certificateAt", "(I)LHostKeyring$Certificate;"⟩
abbrev cX4_appendLine : ByteArray := prog_1_method_30_code
def yX4_appendLine : MethodName := ⟨RX4, "appendLine", "(II)LHostKeyring$Line;"⟩
abbrev cX4_appendSighted : ByteArray := prog_1_method_31_code
def yX4_appendSighted : MethodName := ⟨RX4, "appendSighted", "(III)V"⟩
abbrev cX4_takeOut : ByteArray := prog_1_method_32_code
def yX4_takeOut : MethodName := ⟨RX4, "takeOut", "(I)V"⟩
abbrev cX4_turnLines : ByteArray := prog_1_method_33_code
def yX4_turnLines : MethodName := ⟨RX4, "turnLines", "(IIIII)I"⟩
abbrev cX4_isToBeCleaned : ByteArray := prog_1_method_34_code
def yX4_isToBeCleaned : MethodName := ⟨RX4, "isToBeCleaned", "(LHostKeyring$Line;I)Z"⟩
abbrev cX4_seeToday : ByteArray := prog_1_method_35_code
def yX4_seeToday : MethodName := ⟨RX4, "seeToday", "(IIII)V"⟩
abbrev cX4_letWait : ByteArray := prog_1_method_36_code
def yX4_letWait : MethodName := ⟨RX4, "letWait", "(III)V"⟩
abbrev cX4_judgementOf : ByteArray := prog_1_method_37_code
def yX4_judgementOf : MethodName := ⟨RX4, "judgementOf", "(IIILHostKeyring$Certificate;)I"⟩
abbrev cX4_judgementByLines : ByteArray := prog_1_method_38_code
def yX4_judgementByLines : MethodName := ⟨RX4, "judgementByLines", "(IIII)I"⟩
abbrev cX4_judgementByMatch : ByteArray := prog_1_method_39_code
def yX4_judgementByMatch : MethodName := ⟨RX4, "judgementByMatch", "(LHostKeyring$Line;II)I"⟩
abbrev cX4_isLivePlain : ByteArray := prog_1_method_40_code
def yX4_isLivePlain : MethodName := ⟨RX4, "isLivePlain", "(LHostKeyring$Line;)Z"⟩
abbrev cX4_kindOf : ByteArray := prog_1_method_41_code
def yX4_kindOf : MethodName := ⟨RX4, "kindOf", "(I)I"⟩
abbrev cX4_authorityOf : ByteArray := prog_1_method_42_code
def yX4_authorityOf : MethodName := ⟨RX4, "authorityOf", "(LHostKeyring$Certificate;)I"⟩
abbrev cX4_isGood : ByteArray := prog_1_method_43_code
def yX4_isGood : MethodName := ⟨RX4, "isGood", "(LHostKeyring$Certificate;II)Z"⟩
abbrev cX4_hasAuthority : ByteArray := prog_1_method_44_code
def yX4_hasAuthority : MethodName := ⟨RX4, "hasAuthority", "(III)Z"⟩
abbrev cX4_isInRevokedSpan : ByteArray := prog_1_method_45_code
def yX4_isInRevokedSpan : MethodName := ⟨RX4, "isInRevokedSpan", "(LHostKeyring$Certificate;)Z"⟩
abbrev cX4_countRevokedCertificates : ByteArray := prog_1_method_46_code
def yX4_countRevokedCertificates : MethodName := ⟨RX4, "countRevokedCertificates", "()I"⟩
abbrev cX4_isSameAt : ByteArray := prog_1_method_47_code
def yX4_isSameAt : MethodName := ⟨RX4, "isSameAt", "(III)Z"⟩
def RX5 : String := "HostKeyringModel"
def TX5 : u_T := fun k => match k with
  | _ => ("", "", "", false)
def tyX5 : Nat → FieldType := fun k => match k with
  | _ => .int
abbrev wsX50 : List Cond := u_ws RX5 TX5 0
theorem nmX5 : ∀ a, a < 0 → ∀ b, b < 0 → a ≠ b → (TX5 a).2.1 ≠ (TX5 b).2.1 := by decide +kernel
theorem tyX5_ok : ∀ k, k < 0 → parseFieldDescriptor (TX5 k).2.2.1 = some (tyX5 k) := by decide +kernel
def RJ9 : String := "java/lang/Math"
def TJ9 : u_T := fun k => match k with
  | _ => ("", "", "", false)
def tyJ9 : Nat → FieldType := fun k => match k with
  | _ => .int
abbrev wsJ90 : List Cond := u_ws RJ9 TJ9 0
theorem nmJ9 : ∀ a, a < 0 → ∀ b, b < 0 → a ≠ b → (TJ9 a).2.1 ≠ (TJ9 b).2.1 := by decide +kernel
theorem tyJ9_ok : ∀ k, k < 0 → parseFieldDescriptor (TJ9 k).2.2.1 = some (tyJ9 k) := by decide +kernel
abbrev cJ9_min_7cf53 : ByteArray := prog_12_method_69_code
def yJ9_min_7cf53 : MethodName := ⟨RJ9, "min", "(II)I"⟩
def RJ0 : String := "java/lang/String"
def TJ0 : u_T := fun k => match k with
  | _ => ("", "", "", false)
def tyJ0 : Nat → FieldType := fun k => match k with
  | _ => .int
abbrev wsJ00 : List Cond := u_ws RJ0 TJ0 0
theorem nmJ0 : ∀ a, a < 0 → ∀ b, b < 0 → a ≠ b → (TJ0 a).2.1 ≠ (TJ0 b).2.1 := by decide +kernel
theorem tyJ0_ok : ∀ k, k < 0 → parseFieldDescriptor (TJ0 k).2.2.1 = some (tyJ0 k) := by decide +kernel
def RL : String := "HostKeyringLaw"
abbrev cL_draw : ByteArray := method_2_code
def yL_draw : MethodName := ⟨RL, "draw", "([II)I"⟩
abbrev cL_name : ByteArray := method_3_code
def yL_name : MethodName := ⟨RL, "name", "(I)I"⟩
abbrev cL_step : ByteArray := method_4_code
def yL_step : MethodName := ⟨RL, "step", "(LHostKeyring;[IIII)Z"⟩
abbrev cL_adds : ByteArray := method_5_code
def yL_adds : MethodName := ⟨RL, "adds", "(LHostKeyring;[IIIIII)Z"⟩
abbrev cL_certificates : ByteArray := method_6_code
def yL_certificates : MethodName := ⟨RL, "certificates", "(LHostKeyring;[IIIII)Z"⟩
abbrev cL_due : ByteArray := method_7_code
def yL_due : MethodName := ⟨RL, "due", "(LHostKeyring;[IIII)I"⟩
abbrev cL_answers : ByteArray := method_8_code
def yL_answers : MethodName := ⟨RL, "answers", "(LHostKeyring;[IIIII)Z"⟩
abbrev cL_turns : ByteArray := method_9_code
def yL_turns : MethodName := ⟨RL, "turns", "(LHostKeyring;[IIIIII)Z"⟩
abbrev cL_confirms : ByteArray := method_10_code
def yL_confirms : MethodName := ⟨RL, "confirms", "(LHostKeyring;[I)Z"⟩
abbrev cL_cleans : ByteArray := method_11_code
def yL_cleans : MethodName := ⟨RL, "cleans", "(LHostKeyring;[II)Z"⟩
abbrev cL_isBook : ByteArray := method_12_code
def yL_isBook : MethodName := ⟨RL, "isBook", "(LHostKeyring;[III)Z"⟩
abbrev cL_law : ByteArray := code
def yL_law : MethodName := ⟨RL, "law", "([I)Z"⟩
def wsX0_init : List Cond := .code yX0_init cX0_init 8 none :: ([.methodLink RX0 1 objectInit, .instanceMethod objectInit, .code objectInit ⟨#[0xb1]⟩ 1 none, .fieldLink RX0 7 "HostKeyring$Certificate" "authority" "I", .fieldLink RX0 13 "HostKeyring$Certificate" "key" "I", .fieldLink RX0 16 "HostKeyring$Certificate" "name" "I", .fieldLink RX0 19 "HostKeyring$Certificate" "places" "I", .fieldLink RX0 22 "HostKeyring$Certificate" "serial" "I", .fieldLink RX0 25 "HostKeyring$Certificate" "first" "I", .fieldLink RX0 28 "HostKeyring$Certificate" "last" "I"] ++ wsX00)
def wsX1_init : List Cond := .code yX1_init cX1_init 1 none :: ([.methodLink RX1 3 objectInit, .instanceMethod objectInit, .code objectInit ⟨#[0xb1]⟩ 1 none, .classLink RX1 9 RX2, .fieldLink RX1 11 "HostKeyring$Line" "patterns" "[LHostKeyring$Pattern;"] ++ wsX10)
def wsX1_begin : List Cond := .code yX1_begin cX1_begin 4 none :: ([.fieldLink RX1 17 "HostKeyring$Line" "mark" "I", .fieldLink RX1 21 "HostKeyring$Line" "key" "I", .fieldLink RX1 24 "HostKeyring$Line" "seen" "I", .fieldLink RX1 27 "HostKeyring$Line" "end" "I", .fieldLink RX1 30 "HostKeyring$Line" "patternCount" "I", .fieldLink RX1 33 "HostKeyring$Line" "isHashed" "Z"] ++ wsX10)
def wsX2_init : List Cond := .code yX2_init cX2_init 5 none :: ([.methodLink RX2 1 objectInit, .instanceMethod objectInit, .code objectInit ⟨#[0xb1]⟩ 1 none, .fieldLink RX2 7 "HostKeyring$Pattern" "name" "I", .fieldLink RX2 13 "HostKeyring$Pattern" "places" "I", .fieldLink RX2 16 "HostKeyring$Pattern" "port" "I", .fieldLink RX2 19 "HostKeyring$Pattern" "isDenied" "Z"] ++ wsX20)
def wsX1_takePattern : List Cond := .code yX1_takePattern cX1_takePattern 5 (some .int) :: ([.classLink RX1 37 "java/lang/IllegalStateException", .initialized "java/lang/IllegalStateException", .fieldLink RX1 33 "HostKeyring$Line" "isHashed" "Z", .fieldLink RX1 30 "HostKeyring$Line" "patternCount" "I", .fieldLink RX1 11 "HostKeyring$Line" "patterns" "[LHostKeyring$Pattern;", .classLink RX1 9 RX2, .instantiable RX2 4, .initialized RX2, .methodLink RX1 44 yX2_init, .instanceMethod yX2_init, .code yX2_init cX2_init 5 none, .methodLink RX2 1 objectInit, .instanceMethod objectInit, .code objectInit ⟨#[0xb1]⟩ 1 none, .fieldLink RX2 7 "HostKeyring$Pattern" "name" "I", .fieldLink RX2 13 "HostKeyring$Pattern" "places" "I", .fieldLink RX2 16 "HostKeyring$Pattern" "port" "I", .fieldLink RX2 19 "HostKeyring$Pattern" "isDenied" "Z"] ++ wsX10 ++ wsX20 ++ (vx_atS RX1 41 "java/lang/IllegalStateException" ["java/lang/RuntimeException", "java/lang/Exception"]).filter goodWord)
def wsX1_hashOf : List Cond := .code yX1_hashOf cX1_hashOf 2 (some .int) :: ([])
def wsX1_takeHash : List Cond := .code yX1_takeHash cX1_takeHash 4 none :: ([.fieldLink RX1 33 "HostKeyring$Line" "isHashed" "Z", .fieldLink RX1 51 "HostKeyring$Line" "hash" "I", .fieldLink RX1 54 "HostKeyring$Line" "hashSalt" "I", .fieldLink RX1 57 "HostKeyring$Line" "hashPort" "I", .methodLink RX1 47 yX1_hashOf, .static yX1_hashOf, .initialized RX1, .code yX1_hashOf cX1_hashOf 2 (some .int)] ++ wsX10)
def wsX1_takeMatching : List Cond := .code yX1_takeMatching cX1_takeMatching 3 none :: ([.fieldLink RX1 30 "HostKeyring$Line" "patternCount" "I", .fieldLink RX1 11 "HostKeyring$Line" "patterns" "[LHostKeyring$Pattern;", .fieldLink RX1 33 "HostKeyring$Line" "isHashed" "Z", .fieldLink RX1 51 "HostKeyring$Line" "hash" "I", .fieldLink RX1 54 "HostKeyring$Line" "hashSalt" "I", .fieldLink RX1 57 "HostKeyring$Line" "hashPort" "I"] ++ wsX10)
def wsX1_endBy : List Cond := .code yX1_endBy cX1_endBy 2 none :: ([.fieldLink RX1 27 "HostKeyring$Line" "end" "I"] ++ wsX10)
def wsX1_hasEnded : List Cond := .code yX1_hasEnded cX1_hasEnded 2 (some .boolean) :: ([.fieldLink RX1 27 "HostKeyring$Line" "end" "I"] ++ wsX10)
def wsX1_hasEither : List Cond := .code yX1_hasEither cX1_hasEither 3 (some .boolean) :: ([.fieldLink RX1 21 "HostKeyring$Line" "key" "I"] ++ wsX10)
def wsX4_isSameAt : List Cond := .code yX4_isSameAt cX4_isSameAt 7 (some .boolean) :: ([])
def wsX2_fits : List Cond := .code yX2_fits cX2_fits 3 (some .boolean) :: ([.fieldLink RX2 16 "HostKeyring$Pattern" "port" "I", .fieldLink RX2 13 "HostKeyring$Pattern" "places" "I", .fieldLink RX2 7 "HostKeyring$Pattern" "name" "I", .static yX4_isSameAt, .initialized RX4, .code yX4_isSameAt cX4_isSameAt 7 (some .boolean)] ++ wsX20)
def wsX1_covers : List Cond := .code yX1_covers cX1_covers 6 (some .boolean) :: ([.fieldLink RX1 33 "HostKeyring$Line" "isHashed" "Z", .fieldLink RX1 57 "HostKeyring$Line" "hashPort" "I", .fieldLink RX1 54 "HostKeyring$Line" "hashSalt" "I", .fieldLink RX1 51 "HostKeyring$Line" "hash" "I", .fieldLink RX1 30 "HostKeyring$Line" "patternCount" "I", .fieldLink RX1 11 "HostKeyring$Line" "patterns" "[LHostKeyring$Pattern;", .methodLink RX1 47 yX1_hashOf, .static yX1_hashOf, .initialized RX1, .code yX1_hashOf cX1_hashOf 2 (some .int), .methodLink RX1 60 yX2_fits, .instanceMethod yX2_fits, .selects RX2 yX2_fits yX2_fits, .initialized RX2, .code yX2_fits cX2_fits 3 (some .boolean), .fieldLink RX2 16 "HostKeyring$Pattern" "port" "I", .fieldLink RX2 13 "HostKeyring$Pattern" "places" "I", .fieldLink RX2 7 "HostKeyring$Pattern" "name" "I", .static yX4_isSameAt, .initialized RX4, .code yX4_isSameAt cX4_isSameAt 7 (some .boolean)] ++ wsX10 ++ wsX20)
def wsX3_init : List Cond := .code yX3_init cX3_init 4 none :: ([.methodLink RX3 1 objectInit, .instanceMethod objectInit, .code objectInit ⟨#[0xb1]⟩ 1 none, .fieldLink RX3 7 "HostKeyring$Span" "authority" "I", .fieldLink RX3 13 "HostKeyring$Span" "from" "I", .fieldLink RX3 16 "HostKeyring$Span" "to" "I"] ++ wsX30)
def wsX3_holds : List Cond := .code yX3_holds cX3_holds 3 (some .boolean) :: ([.fieldLink RX3 7 "HostKeyring$Span" "authority" "I", .fieldLink RX3 13 "HostKeyring$Span" "from" "I", .fieldLink RX3 16 "HostKeyring$Span" "to" "I"] ++ wsX30)
def wsX4_init : List Cond := .code yX4_init cX4_init 2 none :: ([.methodLink RX4 1 objectInit, .instanceMethod objectInit, .code objectInit ⟨#[0xb1]⟩ 1 none, .classLink RX4 9 RX1, .fieldLink RX4 11 "HostKeyring" "book" "[LHostKeyring$Line;", .classLink RX4 15 RX0, .fieldLink RX4 17 "HostKeyring" "certificates" "[LHostKeyring$Certificate;", .classLink RX4 21 RX3, .fieldLink RX4 23 "HostKeyring" "spans" "[LHostKeyring$Span;", .fieldLink RX4 27 "HostKeyring" "firstSight" "I", .fieldLink RX4 31 "HostKeyring" "waitingKey" "I", .instantiable RX1 10, .initialized RX1, .instanceMethod yX1_init, .code yX1_init cX1_init 1 none, .methodLink RX1 3 objectInit, .classLink RX1 9 RX2, .fieldLink RX1 11 "HostKeyring$Line" "patterns" "[LHostKeyring$Pattern;"] ++ wsX40 ++ wsX10)
def wsX4_requireWithin : List Cond := .code yX4_requireWithin cX4_requireWithin 3 none :: ([.classLink RX4 129 "java/lang/IllegalArgumentException", .initialized "java/lang/IllegalArgumentException"] ++ (vx_atS RX4 133 "java/lang/IllegalArgumentException" ["java/lang/RuntimeException", "java/lang/Exception"]).filter goodWord)
def wsX4_requireKey : List Cond := .code yX4_requireKey cX4_requireKey 1 none :: ([.methodLink RX4 35 yX4_requireWithin, .static yX4_requireWithin, .initialized RX4, .code yX4_requireWithin cX4_requireWithin 3 none, .classLink RX4 129 "java/lang/IllegalArgumentException", .initialized "java/lang/IllegalArgumentException"] ++ (vx_atS RX4 133 "java/lang/IllegalArgumentException" ["java/lang/RuntimeException", "java/lang/Exception"]).filter goodWord)
def wsX4_appendLine : List Cond := .code yX4_appendLine cX4_appendLine 4 (some (.object "HostKeyring$Line")) :: ([.classLink RX4 74 "java/lang/IllegalStateException", .initialized "java/lang/IllegalStateException", .fieldLink RX4 47 "HostKeyring" "lineCount" "I", .fieldLink RX4 11 "HostKeyring" "book" "[LHostKeyring$Line;", .fieldLink RX4 146 "HostKeyring" "day" "I", .methodLink RX4 179 yX1_begin, .instanceMethod yX1_begin, .selects RX1 yX1_begin yX1_begin, .initialized RX1, .code yX1_begin cX1_begin 4 none, .fieldLink RX1 17 "HostKeyring$Line" "mark" "I", .fieldLink RX1 21 "HostKeyring$Line" "key" "I", .fieldLink RX1 24 "HostKeyring$Line" "seen" "I", .fieldLink RX1 27 "HostKeyring$Line" "end" "I", .fieldLink RX1 30 "HostKeyring$Line" "patternCount" "I", .fieldLink RX1 33 "HostKeyring$Line" "isHashed" "Z"] ++ wsX40 ++ wsX10 ++ (vx_atS RX4 78 "java/lang/IllegalStateException" ["java/lang/RuntimeException", "java/lang/Exception"]).filter goodWord)
def wsX4_addLine_r1 : List Cond := [Cond.fieldLink RX4 47 "HostKeyring" "lineCount" "I", Cond.methodLink RX4 35 yX4_requireWithin, Cond.static yX4_requireWithin, Cond.initialized RX4, Cond.code yX4_requireWithin cX4_requireWithin 3 none, Cond.classLink RX4 129 "java/lang/IllegalArgumentException", Cond.initialized "java/lang/IllegalArgumentException", Cond.methodLink RX4 39 yX4_requireKey, Cond.static yX4_requireKey, Cond.code yX4_requireKey cX4_requireKey 1 none, Cond.methodLink RX4 43 yX4_appendLine, Cond.instanceMethod yX4_appendLine, Cond.selects RX4 yX4_appendLine yX4_appendLine, Cond.code yX4_appendLine cX4_appendLine 4 (some (.object "HostKeyring$Line")), Cond.classLink RX4 74 "java/lang/IllegalStateException", Cond.initialized "java/lang/IllegalStateException", Cond.fieldLink RX4 11 "HostKeyring" "book" "[LHostKeyring$Line;", Cond.fieldLink RX4 146 "HostKeyring" "day" "I", Cond.methodLink RX4 179 yX1_begin, Cond.instanceMethod yX1_begin, Cond.selects RX1 yX1_begin yX1_begin, Cond.initialized RX1, Cond.code yX1_begin cX1_begin 4 none, Cond.fieldLink RX1 17 "HostKeyring$Line" "mark" "I"]
def wsX4_addLine_r2 : List Cond := [Cond.fieldLink RX1 21 "HostKeyring$Line" "key" "I", Cond.fieldLink RX1 24 "HostKeyring$Line" "seen" "I", Cond.fieldLink RX1 27 "HostKeyring$Line" "end" "I", Cond.fieldLink RX1 30 "HostKeyring$Line" "patternCount" "I", Cond.fieldLink RX1 33 "HostKeyring$Line" "isHashed" "Z"]
def wsX4_addLine : List Cond := .code yX4_addLine cX4_addLine 3 (some .int) :: ((wsX4_addLine_r1 ++ wsX4_addLine_r2) ++ wsX40 ++ wsX10 ++ (vx_atS RX4 133 "java/lang/IllegalArgumentException" ["java/lang/RuntimeException", "java/lang/Exception"]).filter goodWord ++ (vx_atS RX4 78 "java/lang/IllegalStateException" ["java/lang/RuntimeException", "java/lang/Exception"]).filter goodWord)
def wsX4_lineAt : List Cond := .code yX4_lineAt cX4_lineAt 2 (some (.object "HostKeyring$Line")) :: ([.classLink RX4 170 "java/lang/IndexOutOfBoundsException", .initialized "java/lang/IndexOutOfBoundsException", .fieldLink RX4 47 "HostKeyring" "lineCount" "I", .fieldLink RX4 11 "HostKeyring" "book" "[LHostKeyring$Line;"] ++ wsX40 ++ (vx_atS RX4 174 "java/lang/IndexOutOfBoundsException" ["java/lang/RuntimeException", "java/lang/Exception"]).filter goodWord)
def wsX4_requireNameAndPort : List Cond := .code yX4_requireNameAndPort cX4_requireNameAndPort 2 none :: ([.methodLink RX4 35 yX4_requireWithin, .static yX4_requireWithin, .initialized RX4, .code yX4_requireWithin cX4_requireWithin 3 none, .classLink RX4 129 "java/lang/IllegalArgumentException", .initialized "java/lang/IllegalArgumentException"] ++ (vx_atS RX4 133 "java/lang/IllegalArgumentException" ["java/lang/RuntimeException", "java/lang/Exception"]).filter goodWord)
def wsX4_addPattern_r1 : List Cond := [Cond.methodLink RX4 50 yX4_lineAt, Cond.instanceMethod yX4_lineAt, Cond.selects RX4 yX4_lineAt yX4_lineAt, Cond.initialized RX4, Cond.code yX4_lineAt cX4_lineAt 2 (some (.object "HostKeyring$Line")), Cond.classLink RX4 170 "java/lang/IndexOutOfBoundsException", Cond.initialized "java/lang/IndexOutOfBoundsException", Cond.fieldLink RX4 47 "HostKeyring" "lineCount" "I", Cond.fieldLink RX4 11 "HostKeyring" "book" "[LHostKeyring$Line;", Cond.methodLink RX4 54 yX4_requireNameAndPort, Cond.static yX4_requireNameAndPort, Cond.code yX4_requireNameAndPort cX4_requireNameAndPort 2 none, Cond.methodLink RX4 35 yX4_requireWithin, Cond.static yX4_requireWithin, Cond.code yX4_requireWithin cX4_requireWithin 3 none, Cond.classLink RX4 129 "java/lang/IllegalArgumentException", Cond.initialized "java/lang/IllegalArgumentException", Cond.methodLink RX4 58 yX1_takePattern, Cond.instanceMethod yX1_takePattern, Cond.selects RX1 yX1_takePattern yX1_takePattern, Cond.initialized RX1, Cond.code yX1_takePattern cX1_takePattern 5 (some .int), Cond.classLink RX1 37 "java/lang/IllegalStateException", Cond.initialized "java/lang/IllegalStateException"]
def wsX4_addPattern_r2 : List Cond := [Cond.fieldLink RX1 33 "HostKeyring$Line" "isHashed" "Z", Cond.fieldLink RX1 30 "HostKeyring$Line" "patternCount" "I", Cond.fieldLink RX1 11 "HostKeyring$Line" "patterns" "[LHostKeyring$Pattern;", Cond.classLink RX1 9 RX2, Cond.instantiable RX2 4, Cond.initialized RX2, Cond.methodLink RX1 44 yX2_init, Cond.instanceMethod yX2_init, Cond.code yX2_init cX2_init 5 none, Cond.methodLink RX2 1 objectInit, Cond.instanceMethod objectInit, Cond.code objectInit ⟨#[0xb1]⟩ 1 none, Cond.fieldLink RX2 7 "HostKeyring$Pattern" "name" "I", Cond.fieldLink RX2 13 "HostKeyring$Pattern" "places" "I", Cond.fieldLink RX2 16 "HostKeyring$Pattern" "port" "I", Cond.fieldLink RX2 19 "HostKeyring$Pattern" "isDenied" "Z"]
def wsX4_addPattern : List Cond := .code yX4_addPattern cX4_addPattern 7 (some .int) :: ((wsX4_addPattern_r1 ++ wsX4_addPattern_r2) ++ wsX40 ++ wsX10 ++ wsX20 ++ (vx_atS RX4 174 "java/lang/IndexOutOfBoundsException" ["java/lang/RuntimeException", "java/lang/Exception"]).filter goodWord ++ (vx_atS RX4 133 "java/lang/IllegalArgumentException" ["java/lang/RuntimeException", "java/lang/Exception"]).filter goodWord ++ (vx_atS RX1 41 "java/lang/IllegalStateException" ["java/lang/RuntimeException", "java/lang/Exception"]).filter goodWord)
def wsX4_addHashed_r1 : List Cond := [Cond.fieldLink RX4 47 "HostKeyring" "lineCount" "I", Cond.methodLink RX4 35 yX4_requireWithin, Cond.static yX4_requireWithin, Cond.initialized RX4, Cond.code yX4_requireWithin cX4_requireWithin 3 none, Cond.classLink RX4 129 "java/lang/IllegalArgumentException", Cond.initialized "java/lang/IllegalArgumentException", Cond.methodLink RX4 39 yX4_requireKey, Cond.static yX4_requireKey, Cond.code yX4_requireKey cX4_requireKey 1 none, Cond.methodLink RX4 54 yX4_requireNameAndPort, Cond.static yX4_requireNameAndPort, Cond.code yX4_requireNameAndPort cX4_requireNameAndPort 2 none, Cond.methodLink RX4 43 yX4_appendLine, Cond.instanceMethod yX4_appendLine, Cond.selects RX4 yX4_appendLine yX4_appendLine, Cond.code yX4_appendLine cX4_appendLine 4 (some (.object "HostKeyring$Line")), Cond.classLink RX4 74 "java/lang/IllegalStateException", Cond.initialized "java/lang/IllegalStateException", Cond.fieldLink RX4 11 "HostKeyring" "book" "[LHostKeyring$Line;", Cond.fieldLink RX4 146 "HostKeyring" "day" "I", Cond.methodLink RX4 179 yX1_begin, Cond.instanceMethod yX1_begin, Cond.selects RX1 yX1_begin yX1_begin]
def wsX4_addHashed_r2 : List Cond := [Cond.initialized RX1, Cond.code yX1_begin cX1_begin 4 none, Cond.fieldLink RX1 17 "HostKeyring$Line" "mark" "I", Cond.fieldLink RX1 21 "HostKeyring$Line" "key" "I", Cond.fieldLink RX1 24 "HostKeyring$Line" "seen" "I", Cond.fieldLink RX1 27 "HostKeyring$Line" "end" "I", Cond.fieldLink RX1 30 "HostKeyring$Line" "patternCount" "I", Cond.fieldLink RX1 33 "HostKeyring$Line" "isHashed" "Z", Cond.methodLink RX4 62 yX1_takeHash, Cond.instanceMethod yX1_takeHash, Cond.selects RX1 yX1_takeHash yX1_takeHash, Cond.code yX1_takeHash cX1_takeHash 4 none, Cond.fieldLink RX1 51 "HostKeyring$Line" "hash" "I", Cond.fieldLink RX1 54 "HostKeyring$Line" "hashSalt" "I", Cond.fieldLink RX1 57 "HostKeyring$Line" "hashPort" "I", Cond.methodLink RX1 47 yX1_hashOf, Cond.static yX1_hashOf, Cond.code yX1_hashOf cX1_hashOf 2 (some .int)]
def wsX4_addHashed : List Cond := .code yX4_addHashed cX4_addHashed 6 (some .int) :: ((wsX4_addHashed_r1 ++ wsX4_addHashed_r2) ++ wsX40 ++ wsX10 ++ (vx_atS RX4 133 "java/lang/IllegalArgumentException" ["java/lang/RuntimeException", "java/lang/Exception"]).filter goodWord ++ (vx_atS RX4 78 "java/lang/IllegalStateException" ["java/lang/RuntimeException", "java/lang/Exception"]).filter goodWord)
def wsX4_takeOut : List Cond := .code yX4_takeOut cX4_takeOut 4 none :: ([.fieldLink RX4 11 "HostKeyring" "book" "[LHostKeyring$Line;", .fieldLink RX4 47 "HostKeyring" "lineCount" "I"] ++ wsX40)
def wsX4_remove : List Cond := .code yX4_remove cX4_remove 3 (some .int) :: ([.methodLink RX4 50 yX4_lineAt, .instanceMethod yX4_lineAt, .selects RX4 yX4_lineAt yX4_lineAt, .initialized RX4, .code yX4_lineAt cX4_lineAt 2 (some (.object "HostKeyring$Line")), .classLink RX4 170 "java/lang/IndexOutOfBoundsException", .initialized "java/lang/IndexOutOfBoundsException", .fieldLink RX4 47 "HostKeyring" "lineCount" "I", .fieldLink RX4 11 "HostKeyring" "book" "[LHostKeyring$Line;", .methodLink RX4 68 yX4_takeOut, .instanceMethod yX4_takeOut, .selects RX4 yX4_takeOut yX4_takeOut, .code yX4_takeOut cX4_takeOut 4 none] ++ wsX10 ++ wsX40 ++ (vx_atS RX4 174 "java/lang/IndexOutOfBoundsException" ["java/lang/RuntimeException", "java/lang/Exception"]).filter goodWord)
def wsX4_certify_r1 : List Cond := [Cond.classLink RX4 74 "java/lang/IllegalStateException", Cond.initialized "java/lang/IllegalStateException", Cond.fieldLink RX4 71 "HostKeyring" "certificateCount" "I", Cond.fieldLink RX4 17 "HostKeyring" "certificates" "[LHostKeyring$Certificate;", Cond.classLink RX4 15 RX0, Cond.instantiable RX0 7, Cond.initialized RX0, Cond.methodLink RX4 39 yX4_requireKey, Cond.static yX4_requireKey, Cond.initialized RX4, Cond.code yX4_requireKey cX4_requireKey 1 none, Cond.methodLink RX4 35 yX4_requireWithin, Cond.static yX4_requireWithin, Cond.code yX4_requireWithin cX4_requireWithin 3 none, Cond.classLink RX4 129 "java/lang/IllegalArgumentException", Cond.initialized "java/lang/IllegalArgumentException", Cond.methodLink RX4 81 yX0_init, Cond.instanceMethod yX0_init, Cond.code yX0_init cX0_init 8 none, Cond.methodLink RX0 1 objectInit, Cond.instanceMethod objectInit, Cond.code objectInit ⟨#[0xb1]⟩ 1 none, Cond.fieldLink RX0 7 "HostKeyring$Certificate" "authority" "I", Cond.fieldLink RX0 13 "HostKeyring$Certificate" "key" "I"]
def wsX4_certify_r2 : List Cond := [Cond.fieldLink RX0 16 "HostKeyring$Certificate" "name" "I", Cond.fieldLink RX0 19 "HostKeyring$Certificate" "places" "I", Cond.fieldLink RX0 22 "HostKeyring$Certificate" "serial" "I", Cond.fieldLink RX0 25 "HostKeyring$Certificate" "first" "I", Cond.fieldLink RX0 28 "HostKeyring$Certificate" "last" "I"]
def wsX4_certify : List Cond := .code yX4_certify cX4_certify 8 (some .int) :: ((wsX4_certify_r1 ++ wsX4_certify_r2) ++ wsX40 ++ wsX00 ++ (vx_atS RX4 78 "java/lang/IllegalStateException" ["java/lang/RuntimeException", "java/lang/Exception"]).filter goodWord ++ (vx_atS RX4 133 "java/lang/IllegalArgumentException" ["java/lang/RuntimeException", "java/lang/Exception"]).filter goodWord)
def wsX4_isInRevokedSpan : List Cond := .code yX4_isInRevokedSpan cX4_isInRevokedSpan 3 (some .boolean) :: ([.fieldLink RX4 84 "HostKeyring" "spanCount" "I", .fieldLink RX4 23 "HostKeyring" "spans" "[LHostKeyring$Span;", .methodLink RX4 248 yX3_holds, .instanceMethod yX3_holds, .selects RX3 yX3_holds yX3_holds, .initialized RX3, .code yX3_holds cX3_holds 3 (some .boolean), .fieldLink RX3 7 "HostKeyring$Span" "authority" "I", .fieldLink RX3 13 "HostKeyring$Span" "from" "I", .fieldLink RX3 16 "HostKeyring$Span" "to" "I"] ++ wsX40 ++ wsX00 ++ wsX30)
def wsX4_countRevokedCertificates : List Cond := .code yX4_countRevokedCertificates cX4_countRevokedCertificates 3 (some .int) :: ([.fieldLink RX4 71 "HostKeyring" "certificateCount" "I", .fieldLink RX4 17 "HostKeyring" "certificates" "[LHostKeyring$Certificate;", .methodLink RX4 238 yX4_isInRevokedSpan, .instanceMethod yX4_isInRevokedSpan, .selects RX4 yX4_isInRevokedSpan yX4_isInRevokedSpan, .initialized RX4, .code yX4_isInRevokedSpan cX4_isInRevokedSpan 3 (some .boolean), .fieldLink RX4 84 "HostKeyring" "spanCount" "I", .fieldLink RX4 23 "HostKeyring" "spans" "[LHostKeyring$Span;", .methodLink RX4 248 yX3_holds, .instanceMethod yX3_holds, .selects RX3 yX3_holds yX3_holds, .initialized RX3, .code yX3_holds cX3_holds 3 (some .boolean), .fieldLink RX3 7 "HostKeyring$Span" "authority" "I", .fieldLink RX3 13 "HostKeyring$Span" "from" "I", .fieldLink RX3 16 "HostKeyring$Span" "to" "I"] ++ wsX40 ++ wsX00 ++ wsX30)
def wsX4_revokeSpan_r1 : List Cond := [Cond.classLink RX4 74 "java/lang/IllegalStateException", Cond.initialized "java/lang/IllegalStateException", Cond.fieldLink RX4 84 "HostKeyring" "spanCount" "I", Cond.fieldLink RX4 23 "HostKeyring" "spans" "[LHostKeyring$Span;", Cond.classLink RX4 21 RX3, Cond.instantiable RX3 3, Cond.initialized RX3, Cond.methodLink RX4 39 yX4_requireKey, Cond.static yX4_requireKey, Cond.initialized RX4, Cond.code yX4_requireKey cX4_requireKey 1 none, Cond.methodLink RX4 35 yX4_requireWithin, Cond.static yX4_requireWithin, Cond.code yX4_requireWithin cX4_requireWithin 3 none, Cond.classLink RX4 129 "java/lang/IllegalArgumentException", Cond.initialized "java/lang/IllegalArgumentException", Cond.methodLink RX4 89 yX3_init, Cond.instanceMethod yX3_init, Cond.code yX3_init cX3_init 4 none, Cond.methodLink RX3 1 objectInit, Cond.instanceMethod objectInit, Cond.code objectInit ⟨#[0xb1]⟩ 1 none, Cond.fieldLink RX3 7 "HostKeyring$Span" "authority" "I", Cond.fieldLink RX3 13 "HostKeyring$Span" "from" "I"]
def wsX4_revokeSpan_r2 : List Cond := [Cond.fieldLink RX3 16 "HostKeyring$Span" "to" "I", Cond.methodLink RX4 91 yX4_countRevokedCertificates, Cond.instanceMethod yX4_countRevokedCertificates, Cond.selects RX4 yX4_countRevokedCertificates yX4_countRevokedCertificates, Cond.code yX4_countRevokedCertificates cX4_countRevokedCertificates 3 (some .int), Cond.fieldLink RX4 71 "HostKeyring" "certificateCount" "I", Cond.fieldLink RX4 17 "HostKeyring" "certificates" "[LHostKeyring$Certificate;", Cond.methodLink RX4 238 yX4_isInRevokedSpan, Cond.instanceMethod yX4_isInRevokedSpan, Cond.selects RX4 yX4_isInRevokedSpan yX4_isInRevokedSpan, Cond.code yX4_isInRevokedSpan cX4_isInRevokedSpan 3 (some .boolean), Cond.methodLink RX4 248 yX3_holds, Cond.instanceMethod yX3_holds, Cond.selects RX3 yX3_holds yX3_holds, Cond.code yX3_holds cX3_holds 3 (some .boolean)]
def wsX4_revokeSpan : List Cond := .code yX4_revokeSpan cX4_revokeSpan 4 (some .int) :: ((wsX4_revokeSpan_r1 ++ wsX4_revokeSpan_r2) ++ wsX40 ++ wsX30 ++ wsX00 ++ (vx_atS RX4 78 "java/lang/IllegalStateException" ["java/lang/RuntimeException", "java/lang/Exception"]).filter goodWord ++ (vx_atS RX4 133 "java/lang/IllegalArgumentException" ["java/lang/RuntimeException", "java/lang/Exception"]).filter goodWord)
def wsX4_setFirstSight : List Cond := .code yX4_setFirstSight cX4_setFirstSight 4 (some .int) :: ([.fieldLink RX4 27 "HostKeyring" "firstSight" "I", .fieldLink RX4 95 "HostKeyring" "isHashing" "Z", .methodLink RX4 35 yX4_requireWithin, .static yX4_requireWithin, .initialized RX4, .code yX4_requireWithin cX4_requireWithin 3 none, .classLink RX4 129 "java/lang/IllegalArgumentException", .initialized "java/lang/IllegalArgumentException"] ++ wsX40 ++ (vx_atS RX4 133 "java/lang/IllegalArgumentException" ["java/lang/RuntimeException", "java/lang/Exception"]).filter goodWord)
def wsX4_certificateAt : List Cond := .code yX4_certificateAt cX4_certificateAt 2 (some (.object "HostKeyring$Certificate")) :: ([.classLink RX4 170 "java/lang/IndexOutOfBoundsException", .initialized "java/lang/IndexOutOfBoundsException", .fieldLink RX4 71 "HostKeyring" "certificateCount" "I", .fieldLink RX4 17 "HostKeyring" "certificates" "[LHostKeyring$Certificate;"] ++ wsX40 ++ (vx_atS RX4 174 "java/lang/IndexOutOfBoundsException" ["java/lang/RuntimeException", "java/lang/Exception"]).filter goodWord)
def wsX4_authorityOf : List Cond := .code yX4_authorityOf cX4_authorityOf 1 (some .int) :: ([] ++ wsX00)
def wsX4_isLivePlain : List Cond := .code yX4_isLivePlain cX4_isLivePlain 2 (some .boolean) :: ([.fieldLink RX4 146 "HostKeyring" "day" "I", .methodLink RX4 193 yX1_hasEnded, .instanceMethod yX1_hasEnded, .selects RX1 yX1_hasEnded yX1_hasEnded, .initialized RX1, .code yX1_hasEnded cX1_hasEnded 2 (some .boolean), .fieldLink RX1 27 "HostKeyring$Line" "end" "I"] ++ wsX10 ++ wsX40)
def wsX4_kindOf : List Cond := .code yX4_kindOf cX4_kindOf 1 (some .int) :: ([])
def wsX4_judgementByMatch : List Cond := .code yX4_judgementByMatch cX4_judgementByMatch 4 (some .int) :: ([.methodLink RX4 197 yX1_hasEither, .instanceMethod yX1_hasEither, .selects RX1 yX1_hasEither yX1_hasEither, .initialized RX1, .code yX1_hasEither cX1_hasEither 3 (some .boolean), .fieldLink RX1 21 "HostKeyring$Line" "key" "I", .methodLink RX4 182 yX4_isLivePlain, .instanceMethod yX4_isLivePlain, .selects RX4 yX4_isLivePlain yX4_isLivePlain, .initialized RX4, .code yX4_isLivePlain cX4_isLivePlain 2 (some .boolean), .fieldLink RX4 146 "HostKeyring" "day" "I", .methodLink RX4 193 yX1_hasEnded, .instanceMethod yX1_hasEnded, .selects RX1 yX1_hasEnded yX1_hasEnded, .code yX1_hasEnded cX1_hasEnded 2 (some .boolean), .fieldLink RX1 27 "HostKeyring$Line" "end" "I", .methodLink RX4 215 yX4_kindOf, .static yX4_kindOf, .code yX4_kindOf cX4_kindOf 1 (some .int)] ++ wsX10 ++ wsX40)
def wsX4_judgementByLines_r1 : List Cond := [Cond.fieldLink RX4 47 "HostKeyring" "lineCount" "I", Cond.fieldLink RX4 11 "HostKeyring" "book" "[LHostKeyring$Line;", Cond.methodLink RX4 209 Lib.Math.min.name, Cond.static Lib.Math.min.name, Cond.initialized "java/lang/Math", Cond.code Lib.Math.min.name Lib.Math.min.code 2 (some .int), Cond.methodLink RX4 164 yX1_covers, Cond.instanceMethod yX1_covers, Cond.selects RX1 yX1_covers yX1_covers, Cond.initialized RX1, Cond.code yX1_covers cX1_covers 6 (some .boolean), Cond.fieldLink RX1 33 "HostKeyring$Line" "isHashed" "Z", Cond.fieldLink RX1 57 "HostKeyring$Line" "hashPort" "I", Cond.fieldLink RX1 54 "HostKeyring$Line" "hashSalt" "I", Cond.fieldLink RX1 51 "HostKeyring$Line" "hash" "I", Cond.fieldLink RX1 30 "HostKeyring$Line" "patternCount" "I", Cond.fieldLink RX1 11 "HostKeyring$Line" "patterns" "[LHostKeyring$Pattern;", Cond.methodLink RX1 47 yX1_hashOf, Cond.static yX1_hashOf, Cond.code yX1_hashOf cX1_hashOf 2 (some .int), Cond.methodLink RX1 60 yX2_fits, Cond.instanceMethod yX2_fits, Cond.selects RX2 yX2_fits yX2_fits, Cond.initialized RX2]
def wsX4_judgementByLines_r2 : List Cond := [Cond.code yX2_fits cX2_fits 3 (some .boolean), Cond.fieldLink RX2 16 "HostKeyring$Pattern" "port" "I", Cond.fieldLink RX2 13 "HostKeyring$Pattern" "places" "I", Cond.fieldLink RX2 7 "HostKeyring$Pattern" "name" "I", Cond.static yX4_isSameAt, Cond.initialized RX4, Cond.code yX4_isSameAt cX4_isSameAt 7 (some .boolean), Cond.methodLink RX4 205 yX4_judgementByMatch, Cond.instanceMethod yX4_judgementByMatch, Cond.selects RX4 yX4_judgementByMatch yX4_judgementByMatch, Cond.code yX4_judgementByMatch cX4_judgementByMatch 4 (some .int), Cond.methodLink RX4 197 yX1_hasEither, Cond.instanceMethod yX1_hasEither, Cond.selects RX1 yX1_hasEither yX1_hasEither, Cond.code yX1_hasEither cX1_hasEither 3 (some .boolean), Cond.fieldLink RX1 21 "HostKeyring$Line" "key" "I", Cond.methodLink RX4 182 yX4_isLivePlain, Cond.instanceMethod yX4_isLivePlain, Cond.selects RX4 yX4_isLivePlain yX4_isLivePlain, Cond.code yX4_isLivePlain cX4_isLivePlain 2 (some .boolean), Cond.fieldLink RX4 146 "HostKeyring" "day" "I", Cond.methodLink RX4 193 yX1_hasEnded, Cond.instanceMethod yX1_hasEnded, Cond.selects RX1 yX1_hasEnded yX1_hasEnded]
def wsX4_judgementByLines_r3 : List Cond := [Cond.code yX1_hasEnded cX1_hasEnded 2 (some .boolean), Cond.fieldLink RX1 27 "HostKeyring$Line" "end" "I", Cond.methodLink RX4 215 yX4_kindOf, Cond.static yX4_kindOf, Cond.code yX4_kindOf cX4_kindOf 1 (some .int)]
def wsX4_judgementByLines : List Cond := .code yX4_judgementByLines cX4_judgementByLines 7 (some .int) :: ((wsX4_judgementByLines_r1 ++ (wsX4_judgementByLines_r2 ++ wsX4_judgementByLines_r3)) ++ wsX40 ++ wsX10 ++ wsX20)
def wsX4_hasAuthority_r1 : List Cond := [Cond.fieldLink RX4 47 "HostKeyring" "lineCount" "I", Cond.fieldLink RX4 11 "HostKeyring" "book" "[LHostKeyring$Line;", Cond.fieldLink RX4 146 "HostKeyring" "day" "I", Cond.methodLink RX4 193 yX1_hasEnded, Cond.instanceMethod yX1_hasEnded, Cond.selects RX1 yX1_hasEnded yX1_hasEnded, Cond.initialized RX1, Cond.code yX1_hasEnded cX1_hasEnded 2 (some .boolean), Cond.fieldLink RX1 27 "HostKeyring$Line" "end" "I", Cond.methodLink RX4 164 yX1_covers, Cond.instanceMethod yX1_covers, Cond.selects RX1 yX1_covers yX1_covers, Cond.code yX1_covers cX1_covers 6 (some .boolean), Cond.fieldLink RX1 33 "HostKeyring$Line" "isHashed" "Z", Cond.fieldLink RX1 57 "HostKeyring$Line" "hashPort" "I", Cond.fieldLink RX1 54 "HostKeyring$Line" "hashSalt" "I", Cond.fieldLink RX1 51 "HostKeyring$Line" "hash" "I", Cond.fieldLink RX1 30 "HostKeyring$Line" "patternCount" "I", Cond.fieldLink RX1 11 "HostKeyring$Line" "patterns" "[LHostKeyring$Pattern;", Cond.methodLink RX1 47 yX1_hashOf, Cond.static yX1_hashOf, Cond.code yX1_hashOf cX1_hashOf 2 (some .int), Cond.methodLink RX1 60 yX2_fits, Cond.instanceMethod yX2_fits]
def wsX4_hasAuthority_r2 : List Cond := [Cond.selects RX2 yX2_fits yX2_fits, Cond.initialized RX2, Cond.code yX2_fits cX2_fits 3 (some .boolean), Cond.fieldLink RX2 16 "HostKeyring$Pattern" "port" "I", Cond.fieldLink RX2 13 "HostKeyring$Pattern" "places" "I", Cond.fieldLink RX2 7 "HostKeyring$Pattern" "name" "I", Cond.static yX4_isSameAt, Cond.initialized RX4, Cond.code yX4_isSameAt cX4_isSameAt 7 (some .boolean)]
def wsX4_hasAuthority : List Cond := .code yX4_hasAuthority cX4_hasAuthority 6 (some .boolean) :: ((wsX4_hasAuthority_r1 ++ wsX4_hasAuthority_r2) ++ wsX40 ++ wsX10 ++ wsX20)
def wsX4_isGood_r1 : List Cond := [Cond.fieldLink RX4 146 "HostKeyring" "day" "I", Cond.methodLink RX4 228 yX4_isSameAt, Cond.static yX4_isSameAt, Cond.initialized RX4, Cond.code yX4_isSameAt cX4_isSameAt 7 (some .boolean), Cond.methodLink RX4 238 yX4_isInRevokedSpan, Cond.instanceMethod yX4_isInRevokedSpan, Cond.selects RX4 yX4_isInRevokedSpan yX4_isInRevokedSpan, Cond.code yX4_isInRevokedSpan cX4_isInRevokedSpan 3 (some .boolean), Cond.fieldLink RX4 84 "HostKeyring" "spanCount" "I", Cond.fieldLink RX4 23 "HostKeyring" "spans" "[LHostKeyring$Span;", Cond.methodLink RX4 248 yX3_holds, Cond.instanceMethod yX3_holds, Cond.selects RX3 yX3_holds yX3_holds, Cond.initialized RX3, Cond.code yX3_holds cX3_holds 3 (some .boolean), Cond.fieldLink RX3 7 "HostKeyring$Span" "authority" "I", Cond.fieldLink RX3 13 "HostKeyring$Span" "from" "I", Cond.fieldLink RX3 16 "HostKeyring$Span" "to" "I", Cond.methodLink RX4 242 yX4_hasAuthority, Cond.instanceMethod yX4_hasAuthority, Cond.selects RX4 yX4_hasAuthority yX4_hasAuthority, Cond.code yX4_hasAuthority cX4_hasAuthority 6 (some .boolean), Cond.fieldLink RX4 47 "HostKeyring" "lineCount" "I"]
def wsX4_isGood_r2 : List Cond := [Cond.fieldLink RX4 11 "HostKeyring" "book" "[LHostKeyring$Line;", Cond.methodLink RX4 193 yX1_hasEnded, Cond.instanceMethod yX1_hasEnded, Cond.selects RX1 yX1_hasEnded yX1_hasEnded, Cond.initialized RX1, Cond.code yX1_hasEnded cX1_hasEnded 2 (some .boolean), Cond.fieldLink RX1 27 "HostKeyring$Line" "end" "I", Cond.methodLink RX4 164 yX1_covers, Cond.instanceMethod yX1_covers, Cond.selects RX1 yX1_covers yX1_covers, Cond.code yX1_covers cX1_covers 6 (some .boolean), Cond.fieldLink RX1 33 "HostKeyring$Line" "isHashed" "Z", Cond.fieldLink RX1 57 "HostKeyring$Line" "hashPort" "I", Cond.fieldLink RX1 54 "HostKeyring$Line" "hashSalt" "I", Cond.fieldLink RX1 51 "HostKeyring$Line" "hash" "I", Cond.fieldLink RX1 30 "HostKeyring$Line" "patternCount" "I", Cond.fieldLink RX1 11 "HostKeyring$Line" "patterns" "[LHostKeyring$Pattern;", Cond.methodLink RX1 47 yX1_hashOf, Cond.static yX1_hashOf, Cond.code yX1_hashOf cX1_hashOf 2 (some .int), Cond.methodLink RX1 60 yX2_fits, Cond.instanceMethod yX2_fits, Cond.selects RX2 yX2_fits yX2_fits, Cond.initialized RX2]
def wsX4_isGood_r3 : List Cond := [Cond.code yX2_fits cX2_fits 3 (some .boolean), Cond.fieldLink RX2 16 "HostKeyring$Pattern" "port" "I", Cond.fieldLink RX2 13 "HostKeyring$Pattern" "places" "I", Cond.fieldLink RX2 7 "HostKeyring$Pattern" "name" "I"]
def wsX4_isGood : List Cond := .code yX4_isGood cX4_isGood 4 (some .boolean) :: ((wsX4_isGood_r1 ++ (wsX4_isGood_r2 ++ wsX4_isGood_r3)) ++ wsX00 ++ wsX40 ++ wsX30 ++ wsX10 ++ wsX20)
def wsX4_judgementOf_r1 : List Cond := [Cond.methodLink RX4 107 yX4_authorityOf, Cond.static yX4_authorityOf, Cond.initialized RX4, Cond.code yX4_authorityOf cX4_authorityOf 1 (some .int), Cond.methodLink RX4 134 yX4_judgementByLines, Cond.instanceMethod yX4_judgementByLines, Cond.selects RX4 yX4_judgementByLines yX4_judgementByLines, Cond.code yX4_judgementByLines cX4_judgementByLines 7 (some .int), Cond.fieldLink RX4 47 "HostKeyring" "lineCount" "I", Cond.fieldLink RX4 11 "HostKeyring" "book" "[LHostKeyring$Line;", Cond.methodLink RX4 209 Lib.Math.min.name, Cond.static Lib.Math.min.name, Cond.initialized "java/lang/Math", Cond.code Lib.Math.min.name Lib.Math.min.code 2 (some .int), Cond.methodLink RX4 164 yX1_covers, Cond.instanceMethod yX1_covers, Cond.selects RX1 yX1_covers yX1_covers, Cond.initialized RX1, Cond.code yX1_covers cX1_covers 6 (some .boolean), Cond.fieldLink RX1 33 "HostKeyring$Line" "isHashed" "Z", Cond.fieldLink RX1 57 "HostKeyring$Line" "hashPort" "I", Cond.fieldLink RX1 54 "HostKeyring$Line" "hashSalt" "I", Cond.fieldLink RX1 51 "HostKeyring$Line" "hash" "I", Cond.fieldLink RX1 30 "HostKeyring$Line" "patternCount" "I"]
def wsX4_judgementOf_r2 : List Cond := [Cond.fieldLink RX1 11 "HostKeyring$Line" "patterns" "[LHostKeyring$Pattern;", Cond.methodLink RX1 47 yX1_hashOf, Cond.static yX1_hashOf, Cond.code yX1_hashOf cX1_hashOf 2 (some .int), Cond.methodLink RX1 60 yX2_fits, Cond.instanceMethod yX2_fits, Cond.selects RX2 yX2_fits yX2_fits, Cond.initialized RX2, Cond.code yX2_fits cX2_fits 3 (some .boolean), Cond.fieldLink RX2 16 "HostKeyring$Pattern" "port" "I", Cond.fieldLink RX2 13 "HostKeyring$Pattern" "places" "I", Cond.fieldLink RX2 7 "HostKeyring$Pattern" "name" "I", Cond.static yX4_isSameAt, Cond.code yX4_isSameAt cX4_isSameAt 7 (some .boolean), Cond.methodLink RX4 205 yX4_judgementByMatch, Cond.instanceMethod yX4_judgementByMatch, Cond.selects RX4 yX4_judgementByMatch yX4_judgementByMatch, Cond.code yX4_judgementByMatch cX4_judgementByMatch 4 (some .int), Cond.methodLink RX4 197 yX1_hasEither, Cond.instanceMethod yX1_hasEither, Cond.selects RX1 yX1_hasEither yX1_hasEither, Cond.code yX1_hasEither cX1_hasEither 3 (some .boolean), Cond.fieldLink RX1 21 "HostKeyring$Line" "key" "I", Cond.methodLink RX4 182 yX4_isLivePlain]
def wsX4_judgementOf_r3 : List Cond := [Cond.instanceMethod yX4_isLivePlain, Cond.selects RX4 yX4_isLivePlain yX4_isLivePlain, Cond.code yX4_isLivePlain cX4_isLivePlain 2 (some .boolean), Cond.fieldLink RX4 146 "HostKeyring" "day" "I", Cond.methodLink RX4 193 yX1_hasEnded, Cond.instanceMethod yX1_hasEnded, Cond.selects RX1 yX1_hasEnded yX1_hasEnded, Cond.code yX1_hasEnded cX1_hasEnded 2 (some .boolean), Cond.fieldLink RX1 27 "HostKeyring$Line" "end" "I", Cond.methodLink RX4 215 yX4_kindOf, Cond.static yX4_kindOf, Cond.code yX4_kindOf cX4_kindOf 1 (some .int), Cond.methodLink RX4 201 yX4_isGood, Cond.instanceMethod yX4_isGood, Cond.selects RX4 yX4_isGood yX4_isGood, Cond.code yX4_isGood cX4_isGood 4 (some .boolean), Cond.methodLink RX4 228 yX4_isSameAt, Cond.methodLink RX4 238 yX4_isInRevokedSpan, Cond.instanceMethod yX4_isInRevokedSpan, Cond.selects RX4 yX4_isInRevokedSpan yX4_isInRevokedSpan, Cond.code yX4_isInRevokedSpan cX4_isInRevokedSpan 3 (some .boolean), Cond.fieldLink RX4 84 "HostKeyring" "spanCount" "I", Cond.fieldLink RX4 23 "HostKeyring" "spans" "[LHostKeyring$Span;", Cond.methodLink RX4 248 yX3_holds]
def wsX4_judgementOf_r4 : List Cond := [Cond.instanceMethod yX3_holds, Cond.selects RX3 yX3_holds yX3_holds, Cond.initialized RX3, Cond.code yX3_holds cX3_holds 3 (some .boolean), Cond.fieldLink RX3 7 "HostKeyring$Span" "authority" "I", Cond.fieldLink RX3 13 "HostKeyring$Span" "from" "I", Cond.fieldLink RX3 16 "HostKeyring$Span" "to" "I", Cond.methodLink RX4 242 yX4_hasAuthority, Cond.instanceMethod yX4_hasAuthority, Cond.selects RX4 yX4_hasAuthority yX4_hasAuthority, Cond.code yX4_hasAuthority cX4_hasAuthority 6 (some .boolean)]
def wsX4_judgementOf : List Cond := .code yX4_judgementOf cX4_judgementOf 6 (some .int) :: ((wsX4_judgementOf_r1 ++ (wsX4_judgementOf_r2 ++ (wsX4_judgementOf_r3 ++ wsX4_judgementOf_r4))) ++ wsX00 ++ wsX40 ++ wsX10 ++ wsX20 ++ wsX30)
def wsX4_seeToday_r1 : List Cond := [Cond.fieldLink RX4 47 "HostKeyring" "lineCount" "I", Cond.fieldLink RX4 11 "HostKeyring" "book" "[LHostKeyring$Line;", Cond.fieldLink RX4 146 "HostKeyring" "day" "I", Cond.methodLink RX4 193 yX1_hasEnded, Cond.instanceMethod yX1_hasEnded, Cond.selects RX1 yX1_hasEnded yX1_hasEnded, Cond.initialized RX1, Cond.code yX1_hasEnded cX1_hasEnded 2 (some .boolean), Cond.fieldLink RX1 27 "HostKeyring$Line" "end" "I", Cond.methodLink RX4 197 yX1_hasEither, Cond.instanceMethod yX1_hasEither, Cond.selects RX1 yX1_hasEither yX1_hasEither, Cond.code yX1_hasEither cX1_hasEither 3 (some .boolean), Cond.fieldLink RX1 21 "HostKeyring$Line" "key" "I", Cond.methodLink RX4 164 yX1_covers, Cond.instanceMethod yX1_covers, Cond.selects RX1 yX1_covers yX1_covers, Cond.code yX1_covers cX1_covers 6 (some .boolean), Cond.fieldLink RX1 33 "HostKeyring$Line" "isHashed" "Z", Cond.fieldLink RX1 57 "HostKeyring$Line" "hashPort" "I", Cond.fieldLink RX1 54 "HostKeyring$Line" "hashSalt" "I", Cond.fieldLink RX1 51 "HostKeyring$Line" "hash" "I", Cond.fieldLink RX1 30 "HostKeyring$Line" "patternCount" "I", Cond.fieldLink RX1 11 "HostKeyring$Line" "patterns" "[LHostKeyring$Pattern;"]
def wsX4_seeToday_r2 : List Cond := [Cond.methodLink RX1 47 yX1_hashOf, Cond.static yX1_hashOf, Cond.code yX1_hashOf cX1_hashOf 2 (some .int), Cond.methodLink RX1 60 yX2_fits, Cond.instanceMethod yX2_fits, Cond.selects RX2 yX2_fits yX2_fits, Cond.initialized RX2, Cond.code yX2_fits cX2_fits 3 (some .boolean), Cond.fieldLink RX2 16 "HostKeyring$Pattern" "port" "I", Cond.fieldLink RX2 13 "HostKeyring$Pattern" "places" "I", Cond.fieldLink RX2 7 "HostKeyring$Pattern" "name" "I", Cond.static yX4_isSameAt, Cond.initialized RX4, Cond.code yX4_isSameAt cX4_isSameAt 7 (some .boolean)]
def wsX4_seeToday : List Cond := .code yX4_seeToday cX4_seeToday 7 none :: ((wsX4_seeToday_r1 ++ wsX4_seeToday_r2) ++ wsX40 ++ wsX10 ++ wsX20)
def wsX4_letWait : List Cond := .code yX4_letWait cX4_letWait 4 none :: ([.fieldLink RX4 123 "HostKeyring" "waitingName" "I", .fieldLink RX4 126 "HostKeyring" "waitingPort" "I", .fieldLink RX4 31 "HostKeyring" "waitingKey" "I"] ++ wsX40)
def wsX4_appendSighted_r1 : List Cond := [Cond.fieldLink RX4 95 "HostKeyring" "isHashing" "Z", Cond.methodLink RX4 43 yX4_appendLine, Cond.instanceMethod yX4_appendLine, Cond.selects RX4 yX4_appendLine yX4_appendLine, Cond.initialized RX4, Cond.code yX4_appendLine cX4_appendLine 4 (some (.object "HostKeyring$Line")), Cond.classLink RX4 74 "java/lang/IllegalStateException", Cond.initialized "java/lang/IllegalStateException", Cond.fieldLink RX4 47 "HostKeyring" "lineCount" "I", Cond.fieldLink RX4 11 "HostKeyring" "book" "[LHostKeyring$Line;", Cond.fieldLink RX4 146 "HostKeyring" "day" "I", Cond.methodLink RX4 179 yX1_begin, Cond.instanceMethod yX1_begin, Cond.selects RX1 yX1_begin yX1_begin, Cond.initialized RX1, Cond.code yX1_begin cX1_begin 4 none, Cond.fieldLink RX1 17 "HostKeyring$Line" "mark" "I", Cond.fieldLink RX1 21 "HostKeyring$Line" "key" "I", Cond.fieldLink RX1 24 "HostKeyring$Line" "seen" "I", Cond.fieldLink RX1 27 "HostKeyring$Line" "end" "I", Cond.fieldLink RX1 30 "HostKeyring$Line" "patternCount" "I", Cond.fieldLink RX1 33 "HostKeyring$Line" "isHashed" "Z", Cond.methodLink RX4 62 yX1_takeHash, Cond.instanceMethod yX1_takeHash]
def wsX4_appendSighted_r2 : List Cond := [Cond.selects RX1 yX1_takeHash yX1_takeHash, Cond.code yX1_takeHash cX1_takeHash 4 none, Cond.fieldLink RX1 51 "HostKeyring$Line" "hash" "I", Cond.fieldLink RX1 54 "HostKeyring$Line" "hashSalt" "I", Cond.fieldLink RX1 57 "HostKeyring$Line" "hashPort" "I", Cond.methodLink RX1 47 yX1_hashOf, Cond.static yX1_hashOf, Cond.code yX1_hashOf cX1_hashOf 2 (some .int), Cond.methodLink RX4 58 yX1_takePattern, Cond.instanceMethod yX1_takePattern, Cond.selects RX1 yX1_takePattern yX1_takePattern, Cond.code yX1_takePattern cX1_takePattern 5 (some .int), Cond.classLink RX1 37 "java/lang/IllegalStateException", Cond.fieldLink RX1 11 "HostKeyring$Line" "patterns" "[LHostKeyring$Pattern;", Cond.classLink RX1 9 RX2, Cond.instantiable RX2 4, Cond.initialized RX2, Cond.methodLink RX1 44 yX2_init, Cond.instanceMethod yX2_init, Cond.code yX2_init cX2_init 5 none, Cond.methodLink RX2 1 objectInit, Cond.instanceMethod objectInit, Cond.code objectInit ⟨#[0xb1]⟩ 1 none, Cond.fieldLink RX2 7 "HostKeyring$Pattern" "name" "I"]
def wsX4_appendSighted_r3 : List Cond := [Cond.fieldLink RX2 13 "HostKeyring$Pattern" "places" "I", Cond.fieldLink RX2 16 "HostKeyring$Pattern" "port" "I", Cond.fieldLink RX2 19 "HostKeyring$Pattern" "isDenied" "Z"]
def wsX4_appendSighted : List Cond := .code yX4_appendSighted cX4_appendSighted 5 none :: ((wsX4_appendSighted_r1 ++ (wsX4_appendSighted_r2 ++ wsX4_appendSighted_r3)) ++ wsX40 ++ wsX10 ++ wsX20 ++ (vx_atS RX4 78 "java/lang/IllegalStateException" ["java/lang/RuntimeException", "java/lang/Exception"]).filter goodWord ++ (vx_atS RX1 41 "java/lang/IllegalStateException" ["java/lang/RuntimeException", "java/lang/Exception"]).filter goodWord)
def wsX4_answer_r1 : List Cond := [Cond.fieldLink RX4 31 "HostKeyring" "waitingKey" "I", Cond.fieldLink RX4 27 "HostKeyring" "firstSight" "I", Cond.fieldLink RX4 47 "HostKeyring" "lineCount" "I", Cond.methodLink RX4 99 yX4_certificateAt, Cond.instanceMethod yX4_certificateAt, Cond.selects RX4 yX4_certificateAt yX4_certificateAt, Cond.initialized RX4, Cond.code yX4_certificateAt cX4_certificateAt 2 (some (.object "HostKeyring$Certificate")), Cond.classLink RX4 170 "java/lang/IndexOutOfBoundsException", Cond.initialized "java/lang/IndexOutOfBoundsException", Cond.fieldLink RX4 71 "HostKeyring" "certificateCount" "I", Cond.fieldLink RX4 17 "HostKeyring" "certificates" "[LHostKeyring$Certificate;", Cond.methodLink RX4 54 yX4_requireNameAndPort, Cond.static yX4_requireNameAndPort, Cond.code yX4_requireNameAndPort cX4_requireNameAndPort 2 none, Cond.methodLink RX4 35 yX4_requireWithin, Cond.static yX4_requireWithin, Cond.code yX4_requireWithin cX4_requireWithin 3 none, Cond.classLink RX4 129 "java/lang/IllegalArgumentException", Cond.initialized "java/lang/IllegalArgumentException", Cond.methodLink RX4 39 yX4_requireKey, Cond.static yX4_requireKey, Cond.code yX4_requireKey cX4_requireKey 1 none, Cond.methodLink RX4 103 yX4_judgementOf]
def wsX4_answer_r2 : List Cond := [Cond.instanceMethod yX4_judgementOf, Cond.selects RX4 yX4_judgementOf yX4_judgementOf, Cond.code yX4_judgementOf cX4_judgementOf 6 (some .int), Cond.methodLink RX4 107 yX4_authorityOf, Cond.static yX4_authorityOf, Cond.code yX4_authorityOf cX4_authorityOf 1 (some .int), Cond.methodLink RX4 134 yX4_judgementByLines, Cond.instanceMethod yX4_judgementByLines, Cond.selects RX4 yX4_judgementByLines yX4_judgementByLines, Cond.code yX4_judgementByLines cX4_judgementByLines 7 (some .int), Cond.fieldLink RX4 11 "HostKeyring" "book" "[LHostKeyring$Line;", Cond.methodLink RX4 209 Lib.Math.min.name, Cond.static Lib.Math.min.name, Cond.initialized "java/lang/Math", Cond.code Lib.Math.min.name Lib.Math.min.code 2 (some .int), Cond.methodLink RX4 164 yX1_covers, Cond.instanceMethod yX1_covers, Cond.selects RX1 yX1_covers yX1_covers, Cond.initialized RX1, Cond.code yX1_covers cX1_covers 6 (some .boolean), Cond.fieldLink RX1 33 "HostKeyring$Line" "isHashed" "Z", Cond.fieldLink RX1 57 "HostKeyring$Line" "hashPort" "I", Cond.fieldLink RX1 54 "HostKeyring$Line" "hashSalt" "I", Cond.fieldLink RX1 51 "HostKeyring$Line" "hash" "I"]
def wsX4_answer_r3 : List Cond := [Cond.fieldLink RX1 30 "HostKeyring$Line" "patternCount" "I", Cond.fieldLink RX1 11 "HostKeyring$Line" "patterns" "[LHostKeyring$Pattern;", Cond.methodLink RX1 47 yX1_hashOf, Cond.static yX1_hashOf, Cond.code yX1_hashOf cX1_hashOf 2 (some .int), Cond.methodLink RX1 60 yX2_fits, Cond.instanceMethod yX2_fits, Cond.selects RX2 yX2_fits yX2_fits, Cond.initialized RX2, Cond.code yX2_fits cX2_fits 3 (some .boolean), Cond.fieldLink RX2 16 "HostKeyring$Pattern" "port" "I", Cond.fieldLink RX2 13 "HostKeyring$Pattern" "places" "I", Cond.fieldLink RX2 7 "HostKeyring$Pattern" "name" "I", Cond.static yX4_isSameAt, Cond.code yX4_isSameAt cX4_isSameAt 7 (some .boolean), Cond.methodLink RX4 205 yX4_judgementByMatch, Cond.instanceMethod yX4_judgementByMatch, Cond.selects RX4 yX4_judgementByMatch yX4_judgementByMatch, Cond.code yX4_judgementByMatch cX4_judgementByMatch 4 (some .int), Cond.methodLink RX4 197 yX1_hasEither, Cond.instanceMethod yX1_hasEither, Cond.selects RX1 yX1_hasEither yX1_hasEither, Cond.code yX1_hasEither cX1_hasEither 3 (some .boolean), Cond.fieldLink RX1 21 "HostKeyring$Line" "key" "I"]
def wsX4_answer_r4 : List Cond := [Cond.methodLink RX4 182 yX4_isLivePlain, Cond.instanceMethod yX4_isLivePlain, Cond.selects RX4 yX4_isLivePlain yX4_isLivePlain, Cond.code yX4_isLivePlain cX4_isLivePlain 2 (some .boolean), Cond.fieldLink RX4 146 "HostKeyring" "day" "I", Cond.methodLink RX4 193 yX1_hasEnded, Cond.instanceMethod yX1_hasEnded, Cond.selects RX1 yX1_hasEnded yX1_hasEnded, Cond.code yX1_hasEnded cX1_hasEnded 2 (some .boolean), Cond.fieldLink RX1 27 "HostKeyring$Line" "end" "I", Cond.methodLink RX4 215 yX4_kindOf, Cond.static yX4_kindOf, Cond.code yX4_kindOf cX4_kindOf 1 (some .int), Cond.methodLink RX4 201 yX4_isGood, Cond.instanceMethod yX4_isGood, Cond.selects RX4 yX4_isGood yX4_isGood, Cond.code yX4_isGood cX4_isGood 4 (some .boolean), Cond.methodLink RX4 228 yX4_isSameAt, Cond.methodLink RX4 238 yX4_isInRevokedSpan, Cond.instanceMethod yX4_isInRevokedSpan, Cond.selects RX4 yX4_isInRevokedSpan yX4_isInRevokedSpan, Cond.code yX4_isInRevokedSpan cX4_isInRevokedSpan 3 (some .boolean), Cond.fieldLink RX4 84 "HostKeyring" "spanCount" "I", Cond.fieldLink RX4 23 "HostKeyring" "spans" "[LHostKeyring$Span;"]
def wsX4_answer_r5 : List Cond := [Cond.methodLink RX4 248 yX3_holds, Cond.instanceMethod yX3_holds, Cond.selects RX3 yX3_holds yX3_holds, Cond.initialized RX3, Cond.code yX3_holds cX3_holds 3 (some .boolean), Cond.fieldLink RX3 7 "HostKeyring$Span" "authority" "I", Cond.fieldLink RX3 13 "HostKeyring$Span" "from" "I", Cond.fieldLink RX3 16 "HostKeyring$Span" "to" "I", Cond.methodLink RX4 242 yX4_hasAuthority, Cond.instanceMethod yX4_hasAuthority, Cond.selects RX4 yX4_hasAuthority yX4_hasAuthority, Cond.code yX4_hasAuthority cX4_hasAuthority 6 (some .boolean), Cond.methodLink RX4 111 yX4_seeToday, Cond.instanceMethod yX4_seeToday, Cond.selects RX4 yX4_seeToday yX4_seeToday, Cond.code yX4_seeToday cX4_seeToday 7 none, Cond.methodLink RX4 115 yX4_letWait, Cond.instanceMethod yX4_letWait, Cond.selects RX4 yX4_letWait yX4_letWait, Cond.code yX4_letWait cX4_letWait 4 none, Cond.fieldLink RX4 123 "HostKeyring" "waitingName" "I", Cond.fieldLink RX4 126 "HostKeyring" "waitingPort" "I", Cond.methodLink RX4 118 yX4_appendSighted, Cond.instanceMethod yX4_appendSighted]
def wsX4_answer_r6 : List Cond := [Cond.selects RX4 yX4_appendSighted yX4_appendSighted, Cond.code yX4_appendSighted cX4_appendSighted 5 none, Cond.fieldLink RX4 95 "HostKeyring" "isHashing" "Z", Cond.methodLink RX4 43 yX4_appendLine, Cond.instanceMethod yX4_appendLine, Cond.selects RX4 yX4_appendLine yX4_appendLine, Cond.code yX4_appendLine cX4_appendLine 4 (some (.object "HostKeyring$Line")), Cond.classLink RX4 74 "java/lang/IllegalStateException", Cond.initialized "java/lang/IllegalStateException", Cond.methodLink RX4 179 yX1_begin, Cond.instanceMethod yX1_begin, Cond.selects RX1 yX1_begin yX1_begin, Cond.code yX1_begin cX1_begin 4 none, Cond.fieldLink RX1 17 "HostKeyring$Line" "mark" "I", Cond.fieldLink RX1 24 "HostKeyring$Line" "seen" "I", Cond.methodLink RX4 62 yX1_takeHash, Cond.instanceMethod yX1_takeHash, Cond.selects RX1 yX1_takeHash yX1_takeHash, Cond.code yX1_takeHash cX1_takeHash 4 none, Cond.methodLink RX4 58 yX1_takePattern, Cond.instanceMethod yX1_takePattern, Cond.selects RX1 yX1_takePattern yX1_takePattern, Cond.code yX1_takePattern cX1_takePattern 5 (some .int), Cond.classLink RX1 37 "java/lang/IllegalStateException"]
def wsX4_answer_r7 : List Cond := [Cond.classLink RX1 9 RX2, Cond.instantiable RX2 4, Cond.methodLink RX1 44 yX2_init, Cond.instanceMethod yX2_init, Cond.code yX2_init cX2_init 5 none, Cond.methodLink RX2 1 objectInit, Cond.instanceMethod objectInit, Cond.code objectInit ⟨#[0xb1]⟩ 1 none, Cond.fieldLink RX2 19 "HostKeyring$Pattern" "isDenied" "Z"]
def wsX4_answer : List Cond := .code yX4_answer cX4_answer 7 (some .int) :: ((wsX4_answer_r1 ++ (wsX4_answer_r2 ++ (wsX4_answer_r3 ++ (wsX4_answer_r4 ++ (wsX4_answer_r5 ++ (wsX4_answer_r6 ++ wsX4_answer_r7)))))) ++ wsX40 ++ wsX00 ++ wsX10 ++ wsX20 ++ wsX30 ++ (vx_atS RX4 174 "java/lang/IndexOutOfBoundsException" ["java/lang/RuntimeException", "java/lang/Exception"]).filter goodWord ++ (vx_atS RX4 133 "java/lang/IllegalArgumentException" ["java/lang/RuntimeException", "java/lang/Exception"]).filter goodWord ++ (vx_atS RX4 78 "java/lang/IllegalStateException" ["java/lang/RuntimeException", "java/lang/Exception"]).filter goodWord ++ (vx_atS RX1 41 "java/lang/IllegalStateException" ["java/lang/RuntimeException", "java/lang/Exception"]).filter goodWord)
def wsX4_confirm_r1 : List Cond := [Cond.classLink RX4 74 "java/lang/IllegalStateException", Cond.initialized "java/lang/IllegalStateException", Cond.fieldLink RX4 31 "HostKeyring" "waitingKey" "I", Cond.fieldLink RX4 123 "HostKeyring" "waitingName" "I", Cond.fieldLink RX4 126 "HostKeyring" "waitingPort" "I", Cond.fieldLink RX4 47 "HostKeyring" "lineCount" "I", Cond.methodLink RX4 118 yX4_appendSighted, Cond.instanceMethod yX4_appendSighted, Cond.selects RX4 yX4_appendSighted yX4_appendSighted, Cond.initialized RX4, Cond.code yX4_appendSighted cX4_appendSighted 5 none, Cond.fieldLink RX4 95 "HostKeyring" "isHashing" "Z", Cond.methodLink RX4 43 yX4_appendLine, Cond.instanceMethod yX4_appendLine, Cond.selects RX4 yX4_appendLine yX4_appendLine, Cond.code yX4_appendLine cX4_appendLine 4 (some (.object "HostKeyring$Line")), Cond.fieldLink RX4 11 "HostKeyring" "book" "[LHostKeyring$Line;", Cond.fieldLink RX4 146 "HostKeyring" "day" "I", Cond.methodLink RX4 179 yX1_begin, Cond.instanceMethod yX1_begin, Cond.selects RX1 yX1_begin yX1_begin, Cond.initialized RX1, Cond.code yX1_begin cX1_begin 4 none, Cond.fieldLink RX1 17 "HostKeyring$Line" "mark" "I"]
def wsX4_confirm_r2 : List Cond := [Cond.fieldLink RX1 21 "HostKeyring$Line" "key" "I", Cond.fieldLink RX1 24 "HostKeyring$Line" "seen" "I", Cond.fieldLink RX1 27 "HostKeyring$Line" "end" "I", Cond.fieldLink RX1 30 "HostKeyring$Line" "patternCount" "I", Cond.fieldLink RX1 33 "HostKeyring$Line" "isHashed" "Z", Cond.methodLink RX4 62 yX1_takeHash, Cond.instanceMethod yX1_takeHash, Cond.selects RX1 yX1_takeHash yX1_takeHash, Cond.code yX1_takeHash cX1_takeHash 4 none, Cond.fieldLink RX1 51 "HostKeyring$Line" "hash" "I", Cond.fieldLink RX1 54 "HostKeyring$Line" "hashSalt" "I", Cond.fieldLink RX1 57 "HostKeyring$Line" "hashPort" "I", Cond.methodLink RX1 47 yX1_hashOf, Cond.static yX1_hashOf, Cond.code yX1_hashOf cX1_hashOf 2 (some .int), Cond.methodLink RX4 58 yX1_takePattern, Cond.instanceMethod yX1_takePattern, Cond.selects RX1 yX1_takePattern yX1_takePattern, Cond.code yX1_takePattern cX1_takePattern 5 (some .int), Cond.classLink RX1 37 "java/lang/IllegalStateException", Cond.fieldLink RX1 11 "HostKeyring$Line" "patterns" "[LHostKeyring$Pattern;", Cond.classLink RX1 9 RX2, Cond.instantiable RX2 4, Cond.initialized RX2]
def wsX4_confirm_r3 : List Cond := [Cond.methodLink RX1 44 yX2_init, Cond.instanceMethod yX2_init, Cond.code yX2_init cX2_init 5 none, Cond.methodLink RX2 1 objectInit, Cond.instanceMethod objectInit, Cond.code objectInit ⟨#[0xb1]⟩ 1 none, Cond.fieldLink RX2 7 "HostKeyring$Pattern" "name" "I", Cond.fieldLink RX2 13 "HostKeyring$Pattern" "places" "I", Cond.fieldLink RX2 16 "HostKeyring$Pattern" "port" "I", Cond.fieldLink RX2 19 "HostKeyring$Pattern" "isDenied" "Z"]
def wsX4_confirm : List Cond := .code yX4_confirm cX4_confirm 1 (some .int) :: ((wsX4_confirm_r1 ++ (wsX4_confirm_r2 ++ wsX4_confirm_r3)) ++ wsX40 ++ wsX10 ++ wsX20 ++ (vx_atS RX4 78 "java/lang/IllegalStateException" ["java/lang/RuntimeException", "java/lang/Exception"]).filter goodWord ++ (vx_atS RX1 41 "java/lang/IllegalStateException" ["java/lang/RuntimeException", "java/lang/Exception"]).filter goodWord)
def wsX4_turnLines_r1 : List Cond := [Cond.fieldLink RX4 47 "HostKeyring" "lineCount" "I", Cond.fieldLink RX4 11 "HostKeyring" "book" "[LHostKeyring$Line;", Cond.fieldLink RX4 146 "HostKeyring" "day" "I", Cond.methodLink RX4 182 yX4_isLivePlain, Cond.instanceMethod yX4_isLivePlain, Cond.selects RX4 yX4_isLivePlain yX4_isLivePlain, Cond.initialized RX4, Cond.code yX4_isLivePlain cX4_isLivePlain 2 (some .boolean), Cond.methodLink RX4 193 yX1_hasEnded, Cond.instanceMethod yX1_hasEnded, Cond.selects RX1 yX1_hasEnded yX1_hasEnded, Cond.initialized RX1, Cond.code yX1_hasEnded cX1_hasEnded 2 (some .boolean), Cond.fieldLink RX1 27 "HostKeyring$Line" "end" "I", Cond.methodLink RX4 164 yX1_covers, Cond.instanceMethod yX1_covers, Cond.selects RX1 yX1_covers yX1_covers, Cond.code yX1_covers cX1_covers 6 (some .boolean), Cond.fieldLink RX1 33 "HostKeyring$Line" "isHashed" "Z", Cond.fieldLink RX1 57 "HostKeyring$Line" "hashPort" "I", Cond.fieldLink RX1 54 "HostKeyring$Line" "hashSalt" "I", Cond.fieldLink RX1 51 "HostKeyring$Line" "hash" "I", Cond.fieldLink RX1 30 "HostKeyring$Line" "patternCount" "I", Cond.fieldLink RX1 11 "HostKeyring$Line" "patterns" "[LHostKeyring$Pattern;"]
def wsX4_turnLines_r2 : List Cond := [Cond.methodLink RX1 47 yX1_hashOf, Cond.static yX1_hashOf, Cond.code yX1_hashOf cX1_hashOf 2 (some .int), Cond.methodLink RX1 60 yX2_fits, Cond.instanceMethod yX2_fits, Cond.selects RX2 yX2_fits yX2_fits, Cond.initialized RX2, Cond.code yX2_fits cX2_fits 3 (some .boolean), Cond.fieldLink RX2 16 "HostKeyring$Pattern" "port" "I", Cond.fieldLink RX2 13 "HostKeyring$Pattern" "places" "I", Cond.fieldLink RX2 7 "HostKeyring$Pattern" "name" "I", Cond.static yX4_isSameAt, Cond.code yX4_isSameAt cX4_isSameAt 7 (some .boolean), Cond.methodLink RX4 43 yX4_appendLine, Cond.instanceMethod yX4_appendLine, Cond.selects RX4 yX4_appendLine yX4_appendLine, Cond.code yX4_appendLine cX4_appendLine 4 (some (.object "HostKeyring$Line")), Cond.classLink RX4 74 "java/lang/IllegalStateException", Cond.initialized "java/lang/IllegalStateException", Cond.methodLink RX4 179 yX1_begin, Cond.instanceMethod yX1_begin, Cond.selects RX1 yX1_begin yX1_begin, Cond.code yX1_begin cX1_begin 4 none, Cond.fieldLink RX1 17 "HostKeyring$Line" "mark" "I"]
def wsX4_turnLines_r3 : List Cond := [Cond.fieldLink RX1 21 "HostKeyring$Line" "key" "I", Cond.fieldLink RX1 24 "HostKeyring$Line" "seen" "I", Cond.methodLink RX4 186 yX1_takeMatching, Cond.instanceMethod yX1_takeMatching, Cond.selects RX1 yX1_takeMatching yX1_takeMatching, Cond.code yX1_takeMatching cX1_takeMatching 3 none, Cond.methodLink RX4 190 yX1_endBy, Cond.instanceMethod yX1_endBy, Cond.selects RX1 yX1_endBy yX1_endBy, Cond.code yX1_endBy cX1_endBy 2 none]
def wsX4_turnLines : List Cond := .code yX4_turnLines cX4_turnLines 9 (some .int) :: ((wsX4_turnLines_r1 ++ (wsX4_turnLines_r2 ++ wsX4_turnLines_r3)) ++ wsX40 ++ wsX10 ++ wsX20 ++ (vx_atS RX4 78 "java/lang/IllegalStateException" ["java/lang/RuntimeException", "java/lang/Exception"]).filter goodWord)
def wsX4_turn_r1 : List Cond := [Cond.classLink RX4 129 "java/lang/IllegalArgumentException", Cond.initialized "java/lang/IllegalArgumentException", Cond.classLink RX4 74 "java/lang/IllegalStateException", Cond.initialized "java/lang/IllegalStateException", Cond.methodLink RX4 54 yX4_requireNameAndPort, Cond.static yX4_requireNameAndPort, Cond.initialized RX4, Cond.code yX4_requireNameAndPort cX4_requireNameAndPort 2 none, Cond.methodLink RX4 35 yX4_requireWithin, Cond.static yX4_requireWithin, Cond.code yX4_requireWithin cX4_requireWithin 3 none, Cond.methodLink RX4 39 yX4_requireKey, Cond.static yX4_requireKey, Cond.code yX4_requireKey cX4_requireKey 1 none, Cond.methodLink RX4 134 yX4_judgementByLines, Cond.instanceMethod yX4_judgementByLines, Cond.selects RX4 yX4_judgementByLines yX4_judgementByLines, Cond.code yX4_judgementByLines cX4_judgementByLines 7 (some .int), Cond.fieldLink RX4 47 "HostKeyring" "lineCount" "I", Cond.fieldLink RX4 11 "HostKeyring" "book" "[LHostKeyring$Line;", Cond.methodLink RX4 209 Lib.Math.min.name, Cond.static Lib.Math.min.name, Cond.initialized "java/lang/Math", Cond.code Lib.Math.min.name Lib.Math.min.code 2 (some .int)]
def wsX4_turn_r2 : List Cond := [Cond.methodLink RX4 164 yX1_covers, Cond.instanceMethod yX1_covers, Cond.selects RX1 yX1_covers yX1_covers, Cond.initialized RX1, Cond.code yX1_covers cX1_covers 6 (some .boolean), Cond.fieldLink RX1 33 "HostKeyring$Line" "isHashed" "Z", Cond.fieldLink RX1 57 "HostKeyring$Line" "hashPort" "I", Cond.fieldLink RX1 54 "HostKeyring$Line" "hashSalt" "I", Cond.fieldLink RX1 51 "HostKeyring$Line" "hash" "I", Cond.fieldLink RX1 30 "HostKeyring$Line" "patternCount" "I", Cond.fieldLink RX1 11 "HostKeyring$Line" "patterns" "[LHostKeyring$Pattern;", Cond.methodLink RX1 47 yX1_hashOf, Cond.static yX1_hashOf, Cond.code yX1_hashOf cX1_hashOf 2 (some .int), Cond.methodLink RX1 60 yX2_fits, Cond.instanceMethod yX2_fits, Cond.selects RX2 yX2_fits yX2_fits, Cond.initialized RX2, Cond.code yX2_fits cX2_fits 3 (some .boolean), Cond.fieldLink RX2 16 "HostKeyring$Pattern" "port" "I", Cond.fieldLink RX2 13 "HostKeyring$Pattern" "places" "I", Cond.fieldLink RX2 7 "HostKeyring$Pattern" "name" "I", Cond.static yX4_isSameAt, Cond.code yX4_isSameAt cX4_isSameAt 7 (some .boolean)]
def wsX4_turn_r3 : List Cond := [Cond.methodLink RX4 205 yX4_judgementByMatch, Cond.instanceMethod yX4_judgementByMatch, Cond.selects RX4 yX4_judgementByMatch yX4_judgementByMatch, Cond.code yX4_judgementByMatch cX4_judgementByMatch 4 (some .int), Cond.methodLink RX4 197 yX1_hasEither, Cond.instanceMethod yX1_hasEither, Cond.selects RX1 yX1_hasEither yX1_hasEither, Cond.code yX1_hasEither cX1_hasEither 3 (some .boolean), Cond.fieldLink RX1 21 "HostKeyring$Line" "key" "I", Cond.methodLink RX4 182 yX4_isLivePlain, Cond.instanceMethod yX4_isLivePlain, Cond.selects RX4 yX4_isLivePlain yX4_isLivePlain, Cond.code yX4_isLivePlain cX4_isLivePlain 2 (some .boolean), Cond.fieldLink RX4 146 "HostKeyring" "day" "I", Cond.methodLink RX4 193 yX1_hasEnded, Cond.instanceMethod yX1_hasEnded, Cond.selects RX1 yX1_hasEnded yX1_hasEnded, Cond.code yX1_hasEnded cX1_hasEnded 2 (some .boolean), Cond.fieldLink RX1 27 "HostKeyring$Line" "end" "I", Cond.methodLink RX4 215 yX4_kindOf, Cond.static yX4_kindOf, Cond.code yX4_kindOf cX4_kindOf 1 (some .int), Cond.methodLink RX4 142 yX4_turnLines, Cond.instanceMethod yX4_turnLines]
def wsX4_turn_r4 : List Cond := [Cond.selects RX4 yX4_turnLines yX4_turnLines, Cond.code yX4_turnLines cX4_turnLines 9 (some .int), Cond.methodLink RX4 43 yX4_appendLine, Cond.instanceMethod yX4_appendLine, Cond.selects RX4 yX4_appendLine yX4_appendLine, Cond.code yX4_appendLine cX4_appendLine 4 (some (.object "HostKeyring$Line")), Cond.methodLink RX4 179 yX1_begin, Cond.instanceMethod yX1_begin, Cond.selects RX1 yX1_begin yX1_begin, Cond.code yX1_begin cX1_begin 4 none, Cond.fieldLink RX1 17 "HostKeyring$Line" "mark" "I", Cond.fieldLink RX1 24 "HostKeyring$Line" "seen" "I", Cond.methodLink RX4 186 yX1_takeMatching, Cond.instanceMethod yX1_takeMatching, Cond.selects RX1 yX1_takeMatching yX1_takeMatching, Cond.code yX1_takeMatching cX1_takeMatching 3 none, Cond.methodLink RX4 190 yX1_endBy, Cond.instanceMethod yX1_endBy, Cond.selects RX1 yX1_endBy yX1_endBy, Cond.code yX1_endBy cX1_endBy 2 none]
def wsX4_turn : List Cond := .code yX4_turn cX4_turn 6 (some .int) :: ((wsX4_turn_r1 ++ (wsX4_turn_r2 ++ (wsX4_turn_r3 ++ wsX4_turn_r4))) ++ wsX40 ++ wsX10 ++ wsX20 ++ (vx_atS RX4 133 "java/lang/IllegalArgumentException" ["java/lang/RuntimeException", "java/lang/Exception"]).filter goodWord ++ (vx_atS RX4 78 "java/lang/IllegalStateException" ["java/lang/RuntimeException", "java/lang/Exception"]).filter goodWord)
def wsX4_pass : List Cond := .code yX4_pass cX4_pass 2 (some .int) :: ([.classLink RX4 74 "java/lang/IllegalStateException", .initialized "java/lang/IllegalStateException", .fieldLink RX4 146 "HostKeyring" "day" "I", .methodLink RX4 35 yX4_requireWithin, .static yX4_requireWithin, .initialized RX4, .code yX4_requireWithin cX4_requireWithin 3 none, .classLink RX4 129 "java/lang/IllegalArgumentException", .initialized "java/lang/IllegalArgumentException"] ++ wsX40 ++ (vx_atS RX4 78 "java/lang/IllegalStateException" ["java/lang/RuntimeException", "java/lang/Exception"]).filter goodWord ++ (vx_atS RX4 133 "java/lang/IllegalArgumentException" ["java/lang/RuntimeException", "java/lang/Exception"]).filter goodWord)
def wsX4_isToBeCleaned : List Cond := .code yX4_isToBeCleaned cX4_isToBeCleaned 3 (some .boolean) :: ([.fieldLink RX4 146 "HostKeyring" "day" "I", .methodLink RX4 193 yX1_hasEnded, .instanceMethod yX1_hasEnded, .selects RX1 yX1_hasEnded yX1_hasEnded, .initialized RX1, .code yX1_hasEnded cX1_hasEnded 2 (some .boolean), .fieldLink RX1 27 "HostKeyring$Line" "end" "I"] ++ wsX10 ++ wsX40)
def wsX4_clean : List Cond := .code yX4_clean cX4_clean 4 (some .int) :: ([.fieldLink RX4 47 "HostKeyring" "lineCount" "I", .fieldLink RX4 11 "HostKeyring" "book" "[LHostKeyring$Line;", .methodLink RX4 35 yX4_requireWithin, .static yX4_requireWithin, .initialized RX4, .code yX4_requireWithin cX4_requireWithin 3 none, .classLink RX4 129 "java/lang/IllegalArgumentException", .initialized "java/lang/IllegalArgumentException", .methodLink RX4 151 yX4_isToBeCleaned, .instanceMethod yX4_isToBeCleaned, .selects RX4 yX4_isToBeCleaned yX4_isToBeCleaned, .code yX4_isToBeCleaned cX4_isToBeCleaned 3 (some .boolean), .fieldLink RX4 146 "HostKeyring" "day" "I", .methodLink RX4 193 yX1_hasEnded, .instanceMethod yX1_hasEnded, .selects RX1 yX1_hasEnded yX1_hasEnded, .initialized RX1, .code yX1_hasEnded cX1_hasEnded 2 (some .boolean), .fieldLink RX1 27 "HostKeyring$Line" "end" "I", .methodLink RX4 68 yX4_takeOut, .instanceMethod yX4_takeOut, .selects RX4 yX4_takeOut yX4_takeOut, .code yX4_takeOut cX4_takeOut 4 none] ++ wsX40 ++ wsX10 ++ (vx_atS RX4 133 "java/lang/IllegalArgumentException" ["java/lang/RuntimeException", "java/lang/Exception"]).filter goodWord)
def wsX4_judge_r1 : List Cond := [Cond.methodLink RX4 99 yX4_certificateAt, Cond.instanceMethod yX4_certificateAt, Cond.selects RX4 yX4_certificateAt yX4_certificateAt, Cond.initialized RX4, Cond.code yX4_certificateAt cX4_certificateAt 2 (some (.object "HostKeyring$Certificate")), Cond.classLink RX4 170 "java/lang/IndexOutOfBoundsException", Cond.initialized "java/lang/IndexOutOfBoundsException", Cond.fieldLink RX4 71 "HostKeyring" "certificateCount" "I", Cond.fieldLink RX4 17 "HostKeyring" "certificates" "[LHostKeyring$Certificate;", Cond.methodLink RX4 54 yX4_requireNameAndPort, Cond.static yX4_requireNameAndPort, Cond.code yX4_requireNameAndPort cX4_requireNameAndPort 2 none, Cond.methodLink RX4 35 yX4_requireWithin, Cond.static yX4_requireWithin, Cond.code yX4_requireWithin cX4_requireWithin 3 none, Cond.classLink RX4 129 "java/lang/IllegalArgumentException", Cond.initialized "java/lang/IllegalArgumentException", Cond.methodLink RX4 39 yX4_requireKey, Cond.static yX4_requireKey, Cond.code yX4_requireKey cX4_requireKey 1 none, Cond.methodLink RX4 103 yX4_judgementOf, Cond.instanceMethod yX4_judgementOf, Cond.selects RX4 yX4_judgementOf yX4_judgementOf, Cond.code yX4_judgementOf cX4_judgementOf 6 (some .int)]
def wsX4_judge_r2 : List Cond := [Cond.methodLink RX4 107 yX4_authorityOf, Cond.static yX4_authorityOf, Cond.code yX4_authorityOf cX4_authorityOf 1 (some .int), Cond.methodLink RX4 134 yX4_judgementByLines, Cond.instanceMethod yX4_judgementByLines, Cond.selects RX4 yX4_judgementByLines yX4_judgementByLines, Cond.code yX4_judgementByLines cX4_judgementByLines 7 (some .int), Cond.fieldLink RX4 47 "HostKeyring" "lineCount" "I", Cond.fieldLink RX4 11 "HostKeyring" "book" "[LHostKeyring$Line;", Cond.methodLink RX4 209 Lib.Math.min.name, Cond.static Lib.Math.min.name, Cond.initialized "java/lang/Math", Cond.code Lib.Math.min.name Lib.Math.min.code 2 (some .int), Cond.methodLink RX4 164 yX1_covers, Cond.instanceMethod yX1_covers, Cond.selects RX1 yX1_covers yX1_covers, Cond.initialized RX1, Cond.code yX1_covers cX1_covers 6 (some .boolean), Cond.fieldLink RX1 33 "HostKeyring$Line" "isHashed" "Z", Cond.fieldLink RX1 57 "HostKeyring$Line" "hashPort" "I", Cond.fieldLink RX1 54 "HostKeyring$Line" "hashSalt" "I", Cond.fieldLink RX1 51 "HostKeyring$Line" "hash" "I", Cond.fieldLink RX1 30 "HostKeyring$Line" "patternCount" "I", Cond.fieldLink RX1 11 "HostKeyring$Line" "patterns" "[LHostKeyring$Pattern;"]
def wsX4_judge_r3 : List Cond := [Cond.methodLink RX1 47 yX1_hashOf, Cond.static yX1_hashOf, Cond.code yX1_hashOf cX1_hashOf 2 (some .int), Cond.methodLink RX1 60 yX2_fits, Cond.instanceMethod yX2_fits, Cond.selects RX2 yX2_fits yX2_fits, Cond.initialized RX2, Cond.code yX2_fits cX2_fits 3 (some .boolean), Cond.fieldLink RX2 16 "HostKeyring$Pattern" "port" "I", Cond.fieldLink RX2 13 "HostKeyring$Pattern" "places" "I", Cond.fieldLink RX2 7 "HostKeyring$Pattern" "name" "I", Cond.static yX4_isSameAt, Cond.code yX4_isSameAt cX4_isSameAt 7 (some .boolean), Cond.methodLink RX4 205 yX4_judgementByMatch, Cond.instanceMethod yX4_judgementByMatch, Cond.selects RX4 yX4_judgementByMatch yX4_judgementByMatch, Cond.code yX4_judgementByMatch cX4_judgementByMatch 4 (some .int), Cond.methodLink RX4 197 yX1_hasEither, Cond.instanceMethod yX1_hasEither, Cond.selects RX1 yX1_hasEither yX1_hasEither, Cond.code yX1_hasEither cX1_hasEither 3 (some .boolean), Cond.fieldLink RX1 21 "HostKeyring$Line" "key" "I", Cond.methodLink RX4 182 yX4_isLivePlain, Cond.instanceMethod yX4_isLivePlain]
def wsX4_judge_r4 : List Cond := [Cond.selects RX4 yX4_isLivePlain yX4_isLivePlain, Cond.code yX4_isLivePlain cX4_isLivePlain 2 (some .boolean), Cond.fieldLink RX4 146 "HostKeyring" "day" "I", Cond.methodLink RX4 193 yX1_hasEnded, Cond.instanceMethod yX1_hasEnded, Cond.selects RX1 yX1_hasEnded yX1_hasEnded, Cond.code yX1_hasEnded cX1_hasEnded 2 (some .boolean), Cond.fieldLink RX1 27 "HostKeyring$Line" "end" "I", Cond.methodLink RX4 215 yX4_kindOf, Cond.static yX4_kindOf, Cond.code yX4_kindOf cX4_kindOf 1 (some .int), Cond.methodLink RX4 201 yX4_isGood, Cond.instanceMethod yX4_isGood, Cond.selects RX4 yX4_isGood yX4_isGood, Cond.code yX4_isGood cX4_isGood 4 (some .boolean), Cond.methodLink RX4 228 yX4_isSameAt, Cond.methodLink RX4 238 yX4_isInRevokedSpan, Cond.instanceMethod yX4_isInRevokedSpan, Cond.selects RX4 yX4_isInRevokedSpan yX4_isInRevokedSpan, Cond.code yX4_isInRevokedSpan cX4_isInRevokedSpan 3 (some .boolean), Cond.fieldLink RX4 84 "HostKeyring" "spanCount" "I", Cond.fieldLink RX4 23 "HostKeyring" "spans" "[LHostKeyring$Span;", Cond.methodLink RX4 248 yX3_holds, Cond.instanceMethod yX3_holds]
def wsX4_judge_r5 : List Cond := [Cond.selects RX3 yX3_holds yX3_holds, Cond.initialized RX3, Cond.code yX3_holds cX3_holds 3 (some .boolean), Cond.fieldLink RX3 7 "HostKeyring$Span" "authority" "I", Cond.fieldLink RX3 13 "HostKeyring$Span" "from" "I", Cond.fieldLink RX3 16 "HostKeyring$Span" "to" "I", Cond.methodLink RX4 242 yX4_hasAuthority, Cond.instanceMethod yX4_hasAuthority, Cond.selects RX4 yX4_hasAuthority yX4_hasAuthority, Cond.code yX4_hasAuthority cX4_hasAuthority 6 (some .boolean)]
def wsX4_judge : List Cond := .code yX4_judge cX4_judge 6 (some .int) :: ((wsX4_judge_r1 ++ (wsX4_judge_r2 ++ (wsX4_judge_r3 ++ (wsX4_judge_r4 ++ wsX4_judge_r5)))) ++ wsX40 ++ wsX00 ++ wsX10 ++ wsX20 ++ wsX30 ++ (vx_atS RX4 174 "java/lang/IndexOutOfBoundsException" ["java/lang/RuntimeException", "java/lang/Exception"]).filter goodWord ++ (vx_atS RX4 133 "java/lang/IllegalArgumentException" ["java/lang/RuntimeException", "java/lang/Exception"]).filter goodWord)
def wsX4_judgeByReading_r1 : List Cond := [Cond.methodLink RX4 54 yX4_requireNameAndPort, Cond.static yX4_requireNameAndPort, Cond.initialized RX4, Cond.code yX4_requireNameAndPort cX4_requireNameAndPort 2 none, Cond.methodLink RX4 35 yX4_requireWithin, Cond.static yX4_requireWithin, Cond.code yX4_requireWithin cX4_requireWithin 3 none, Cond.classLink RX4 129 "java/lang/IllegalArgumentException", Cond.initialized "java/lang/IllegalArgumentException", Cond.methodLink RX4 39 yX4_requireKey, Cond.static yX4_requireKey, Cond.code yX4_requireKey cX4_requireKey 1 none, Cond.methodLink RX4 134 yX4_judgementByLines, Cond.instanceMethod yX4_judgementByLines, Cond.selects RX4 yX4_judgementByLines yX4_judgementByLines, Cond.code yX4_judgementByLines cX4_judgementByLines 7 (some .int), Cond.fieldLink RX4 47 "HostKeyring" "lineCount" "I", Cond.fieldLink RX4 11 "HostKeyring" "book" "[LHostKeyring$Line;", Cond.methodLink RX4 209 Lib.Math.min.name, Cond.static Lib.Math.min.name, Cond.initialized "java/lang/Math", Cond.code Lib.Math.min.name Lib.Math.min.code 2 (some .int), Cond.methodLink RX4 164 yX1_covers, Cond.instanceMethod yX1_covers]
def wsX4_judgeByReading_r2 : List Cond := [Cond.selects RX1 yX1_covers yX1_covers, Cond.initialized RX1, Cond.code yX1_covers cX1_covers 6 (some .boolean), Cond.fieldLink RX1 33 "HostKeyring$Line" "isHashed" "Z", Cond.fieldLink RX1 57 "HostKeyring$Line" "hashPort" "I", Cond.fieldLink RX1 54 "HostKeyring$Line" "hashSalt" "I", Cond.fieldLink RX1 51 "HostKeyring$Line" "hash" "I", Cond.fieldLink RX1 30 "HostKeyring$Line" "patternCount" "I", Cond.fieldLink RX1 11 "HostKeyring$Line" "patterns" "[LHostKeyring$Pattern;", Cond.methodLink RX1 47 yX1_hashOf, Cond.static yX1_hashOf, Cond.code yX1_hashOf cX1_hashOf 2 (some .int), Cond.methodLink RX1 60 yX2_fits, Cond.instanceMethod yX2_fits, Cond.selects RX2 yX2_fits yX2_fits, Cond.initialized RX2, Cond.code yX2_fits cX2_fits 3 (some .boolean), Cond.fieldLink RX2 16 "HostKeyring$Pattern" "port" "I", Cond.fieldLink RX2 13 "HostKeyring$Pattern" "places" "I", Cond.fieldLink RX2 7 "HostKeyring$Pattern" "name" "I", Cond.static yX4_isSameAt, Cond.code yX4_isSameAt cX4_isSameAt 7 (some .boolean), Cond.methodLink RX4 205 yX4_judgementByMatch, Cond.instanceMethod yX4_judgementByMatch]
def wsX4_judgeByReading_r3 : List Cond := [Cond.selects RX4 yX4_judgementByMatch yX4_judgementByMatch, Cond.code yX4_judgementByMatch cX4_judgementByMatch 4 (some .int), Cond.methodLink RX4 197 yX1_hasEither, Cond.instanceMethod yX1_hasEither, Cond.selects RX1 yX1_hasEither yX1_hasEither, Cond.code yX1_hasEither cX1_hasEither 3 (some .boolean), Cond.fieldLink RX1 21 "HostKeyring$Line" "key" "I", Cond.methodLink RX4 182 yX4_isLivePlain, Cond.instanceMethod yX4_isLivePlain, Cond.selects RX4 yX4_isLivePlain yX4_isLivePlain, Cond.code yX4_isLivePlain cX4_isLivePlain 2 (some .boolean), Cond.fieldLink RX4 146 "HostKeyring" "day" "I", Cond.methodLink RX4 193 yX1_hasEnded, Cond.instanceMethod yX1_hasEnded, Cond.selects RX1 yX1_hasEnded yX1_hasEnded, Cond.code yX1_hasEnded cX1_hasEnded 2 (some .boolean), Cond.fieldLink RX1 27 "HostKeyring$Line" "end" "I", Cond.methodLink RX4 215 yX4_kindOf, Cond.static yX4_kindOf, Cond.code yX4_kindOf cX4_kindOf 1 (some .int)]
def wsX4_judgeByReading : List Cond := .code yX4_judgeByReading cX4_judgeByReading 4 (some .int) :: ((wsX4_judgeByReading_r1 ++ (wsX4_judgeByReading_r2 ++ wsX4_judgeByReading_r3)) ++ wsX40 ++ wsX10 ++ wsX20 ++ (vx_atS RX4 133 "java/lang/IllegalArgumentException" ["java/lang/RuntimeException", "java/lang/Exception"]).filter goodWord)
def wsX4_day : List Cond := .code yX4_day cX4_day 1 (some .int) :: ([.fieldLink RX4 146 "HostKeyring" "day" "I"] ++ wsX40)
def wsX4_lines : List Cond := .code yX4_lines cX4_lines 1 (some .int) :: ([.fieldLink RX4 47 "HostKeyring" "lineCount" "I"] ++ wsX40)
def wsX4_keyOf : List Cond := .code yX4_keyOf cX4_keyOf 3 (some .int) :: ([.methodLink RX4 50 yX4_lineAt, .instanceMethod yX4_lineAt, .selects RX4 yX4_lineAt yX4_lineAt, .initialized RX4, .code yX4_lineAt cX4_lineAt 2 (some (.object "HostKeyring$Line")), .classLink RX4 170 "java/lang/IndexOutOfBoundsException", .initialized "java/lang/IndexOutOfBoundsException", .fieldLink RX4 47 "HostKeyring" "lineCount" "I", .fieldLink RX4 11 "HostKeyring" "book" "[LHostKeyring$Line;"] ++ wsX10 ++ wsX40 ++ (vx_atS RX4 174 "java/lang/IndexOutOfBoundsException" ["java/lang/RuntimeException", "java/lang/Exception"]).filter goodWord)
def wsX4_seen : List Cond := .code yX4_seen cX4_seen 2 (some .int) :: ([.methodLink RX4 50 yX4_lineAt, .instanceMethod yX4_lineAt, .selects RX4 yX4_lineAt yX4_lineAt, .initialized RX4, .code yX4_lineAt cX4_lineAt 2 (some (.object "HostKeyring$Line")), .classLink RX4 170 "java/lang/IndexOutOfBoundsException", .initialized "java/lang/IndexOutOfBoundsException", .fieldLink RX4 47 "HostKeyring" "lineCount" "I", .fieldLink RX4 11 "HostKeyring" "book" "[LHostKeyring$Line;"] ++ wsX10 ++ wsX40 ++ (vx_atS RX4 174 "java/lang/IndexOutOfBoundsException" ["java/lang/RuntimeException", "java/lang/Exception"]).filter goodWord)
def wsX4_end : List Cond := .code yX4_end cX4_end 2 (some .int) :: ([.methodLink RX4 50 yX4_lineAt, .instanceMethod yX4_lineAt, .selects RX4 yX4_lineAt yX4_lineAt, .initialized RX4, .code yX4_lineAt cX4_lineAt 2 (some (.object "HostKeyring$Line")), .classLink RX4 170 "java/lang/IndexOutOfBoundsException", .initialized "java/lang/IndexOutOfBoundsException", .fieldLink RX4 47 "HostKeyring" "lineCount" "I", .fieldLink RX4 11 "HostKeyring" "book" "[LHostKeyring$Line;"] ++ wsX10 ++ wsX40 ++ (vx_atS RX4 174 "java/lang/IndexOutOfBoundsException" ["java/lang/RuntimeException", "java/lang/Exception"]).filter goodWord)
def wsX4_matches_r1 : List Cond := [Cond.methodLink RX4 50 yX4_lineAt, Cond.instanceMethod yX4_lineAt, Cond.selects RX4 yX4_lineAt yX4_lineAt, Cond.initialized RX4, Cond.code yX4_lineAt cX4_lineAt 2 (some (.object "HostKeyring$Line")), Cond.classLink RX4 170 "java/lang/IndexOutOfBoundsException", Cond.initialized "java/lang/IndexOutOfBoundsException", Cond.fieldLink RX4 47 "HostKeyring" "lineCount" "I", Cond.fieldLink RX4 11 "HostKeyring" "book" "[LHostKeyring$Line;", Cond.methodLink RX4 54 yX4_requireNameAndPort, Cond.static yX4_requireNameAndPort, Cond.code yX4_requireNameAndPort cX4_requireNameAndPort 2 none, Cond.methodLink RX4 35 yX4_requireWithin, Cond.static yX4_requireWithin, Cond.code yX4_requireWithin cX4_requireWithin 3 none, Cond.classLink RX4 129 "java/lang/IllegalArgumentException", Cond.initialized "java/lang/IllegalArgumentException", Cond.methodLink RX4 164 yX1_covers, Cond.instanceMethod yX1_covers, Cond.selects RX1 yX1_covers yX1_covers, Cond.initialized RX1, Cond.code yX1_covers cX1_covers 6 (some .boolean), Cond.fieldLink RX1 33 "HostKeyring$Line" "isHashed" "Z", Cond.fieldLink RX1 57 "HostKeyring$Line" "hashPort" "I"]
def wsX4_matches_r2 : List Cond := [Cond.fieldLink RX1 54 "HostKeyring$Line" "hashSalt" "I", Cond.fieldLink RX1 51 "HostKeyring$Line" "hash" "I", Cond.fieldLink RX1 30 "HostKeyring$Line" "patternCount" "I", Cond.fieldLink RX1 11 "HostKeyring$Line" "patterns" "[LHostKeyring$Pattern;", Cond.methodLink RX1 47 yX1_hashOf, Cond.static yX1_hashOf, Cond.code yX1_hashOf cX1_hashOf 2 (some .int), Cond.methodLink RX1 60 yX2_fits, Cond.instanceMethod yX2_fits, Cond.selects RX2 yX2_fits yX2_fits, Cond.initialized RX2, Cond.code yX2_fits cX2_fits 3 (some .boolean), Cond.fieldLink RX2 16 "HostKeyring$Pattern" "port" "I", Cond.fieldLink RX2 13 "HostKeyring$Pattern" "places" "I", Cond.fieldLink RX2 7 "HostKeyring$Pattern" "name" "I", Cond.static yX4_isSameAt, Cond.code yX4_isSameAt cX4_isSameAt 7 (some .boolean)]
def wsX4_matches : List Cond := .code yX4_matches cX4_matches 5 (some .boolean) :: ((wsX4_matches_r1 ++ wsX4_matches_r2) ++ wsX40 ++ wsX10 ++ wsX20 ++ (vx_atS RX4 174 "java/lang/IndexOutOfBoundsException" ["java/lang/RuntimeException", "java/lang/Exception"]).filter goodWord ++ (vx_atS RX4 133 "java/lang/IllegalArgumentException" ["java/lang/RuntimeException", "java/lang/Exception"]).filter goodWord)
def wsX4_find_r1 : List Cond := [Cond.fieldLink RX4 47 "HostKeyring" "lineCount" "I", Cond.fieldLink RX4 11 "HostKeyring" "book" "[LHostKeyring$Line;", Cond.methodLink RX4 54 yX4_requireNameAndPort, Cond.static yX4_requireNameAndPort, Cond.initialized RX4, Cond.code yX4_requireNameAndPort cX4_requireNameAndPort 2 none, Cond.methodLink RX4 35 yX4_requireWithin, Cond.static yX4_requireWithin, Cond.code yX4_requireWithin cX4_requireWithin 3 none, Cond.classLink RX4 129 "java/lang/IllegalArgumentException", Cond.initialized "java/lang/IllegalArgumentException", Cond.methodLink RX4 164 yX1_covers, Cond.instanceMethod yX1_covers, Cond.selects RX1 yX1_covers yX1_covers, Cond.initialized RX1, Cond.code yX1_covers cX1_covers 6 (some .boolean), Cond.fieldLink RX1 33 "HostKeyring$Line" "isHashed" "Z", Cond.fieldLink RX1 57 "HostKeyring$Line" "hashPort" "I", Cond.fieldLink RX1 54 "HostKeyring$Line" "hashSalt" "I", Cond.fieldLink RX1 51 "HostKeyring$Line" "hash" "I", Cond.fieldLink RX1 30 "HostKeyring$Line" "patternCount" "I", Cond.fieldLink RX1 11 "HostKeyring$Line" "patterns" "[LHostKeyring$Pattern;", Cond.methodLink RX1 47 yX1_hashOf, Cond.static yX1_hashOf]
def wsX4_find_r2 : List Cond := [Cond.code yX1_hashOf cX1_hashOf 2 (some .int), Cond.methodLink RX1 60 yX2_fits, Cond.instanceMethod yX2_fits, Cond.selects RX2 yX2_fits yX2_fits, Cond.initialized RX2, Cond.code yX2_fits cX2_fits 3 (some .boolean), Cond.fieldLink RX2 16 "HostKeyring$Pattern" "port" "I", Cond.fieldLink RX2 13 "HostKeyring$Pattern" "places" "I", Cond.fieldLink RX2 7 "HostKeyring$Pattern" "name" "I", Cond.static yX4_isSameAt, Cond.code yX4_isSameAt cX4_isSameAt 7 (some .boolean)]
def wsX4_find : List Cond := .code yX4_find cX4_find 4 (some .int) :: ((wsX4_find_r1 ++ wsX4_find_r2) ++ wsX40 ++ wsX10 ++ wsX20 ++ (vx_atS RX4 133 "java/lang/IllegalArgumentException" ["java/lang/RuntimeException", "java/lang/Exception"]).filter goodWord)
def wsX4_linesOf : List Cond := .code yX4_linesOf cX4_linesOf 5 (some .long) :: ([.fieldLink RX4 47 "HostKeyring" "lineCount" "I", .fieldLink RX4 11 "HostKeyring" "book" "[LHostKeyring$Line;", .methodLink RX4 39 yX4_requireKey, .static yX4_requireKey, .initialized RX4, .code yX4_requireKey cX4_requireKey 1 none, .methodLink RX4 35 yX4_requireWithin, .static yX4_requireWithin, .code yX4_requireWithin cX4_requireWithin 3 none, .classLink RX4 129 "java/lang/IllegalArgumentException", .initialized "java/lang/IllegalArgumentException"] ++ wsX40 ++ wsX10 ++ (vx_atS RX4 133 "java/lang/IllegalArgumentException" ["java/lang/RuntimeException", "java/lang/Exception"]).filter goodWord)
def wsX4_waiting : List Cond := .code yX4_waiting cX4_waiting 1 (some .int) :: ([.fieldLink RX4 31 "HostKeyring" "waitingKey" "I"] ++ wsX40)
def wsJ9_min_7cf53 : List Cond := .code yJ9_min_7cf53 cJ9_min_7cf53 2 (some .int) :: ([])
def wsL_draw : List Cond := .code yL_draw cL_draw 2 (some .int) :: ([.constant RL 7 (2147483647), .constant RL 8 (104729), .constant RL 9 (65521)])
def wsL_name : List Cond := .code yL_name cL_name 1 (some .int) :: ([])
def wsL_adds_r1 : List Cond := [Cond.methodLink RL 72 yX4_addLine, Cond.instanceMethod yX4_addLine, Cond.selects RX4 yX4_addLine yX4_addLine, Cond.initialized RX4, Cond.code yX4_addLine cX4_addLine 3 (some .int), Cond.fieldLink RX4 47 "HostKeyring" "lineCount" "I", Cond.methodLink RX4 35 yX4_requireWithin, Cond.static yX4_requireWithin, Cond.code yX4_requireWithin cX4_requireWithin 3 none, Cond.classLink RX4 129 "java/lang/IllegalArgumentException", Cond.initialized "java/lang/IllegalArgumentException", Cond.methodLink RX4 39 yX4_requireKey, Cond.static yX4_requireKey, Cond.code yX4_requireKey cX4_requireKey 1 none, Cond.methodLink RX4 43 yX4_appendLine, Cond.instanceMethod yX4_appendLine, Cond.selects RX4 yX4_appendLine yX4_appendLine, Cond.code yX4_appendLine cX4_appendLine 4 (some (.object "HostKeyring$Line")), Cond.classLink RX4 74 "java/lang/IllegalStateException", Cond.initialized "java/lang/IllegalStateException", Cond.fieldLink RX4 11 "HostKeyring" "book" "[LHostKeyring$Line;", Cond.fieldLink RX4 146 "HostKeyring" "day" "I", Cond.methodLink RX4 179 yX1_begin, Cond.instanceMethod yX1_begin]
def wsL_adds_r2 : List Cond := [Cond.selects RX1 yX1_begin yX1_begin, Cond.initialized RX1, Cond.code yX1_begin cX1_begin 4 none, Cond.fieldLink RX1 17 "HostKeyring$Line" "mark" "I", Cond.fieldLink RX1 21 "HostKeyring$Line" "key" "I", Cond.fieldLink RX1 24 "HostKeyring$Line" "seen" "I", Cond.fieldLink RX1 27 "HostKeyring$Line" "end" "I", Cond.fieldLink RX1 30 "HostKeyring$Line" "patternCount" "I", Cond.fieldLink RX1 33 "HostKeyring$Line" "isHashed" "Z", Cond.methodLink RL 38 yX4_keyOf, Cond.instanceMethod yX4_keyOf, Cond.selects RX4 yX4_keyOf yX4_keyOf, Cond.code yX4_keyOf cX4_keyOf 3 (some .int), Cond.methodLink RX4 50 yX4_lineAt, Cond.instanceMethod yX4_lineAt, Cond.selects RX4 yX4_lineAt yX4_lineAt, Cond.code yX4_lineAt cX4_lineAt 2 (some (.object "HostKeyring$Line")), Cond.classLink RX4 170 "java/lang/IndexOutOfBoundsException", Cond.initialized "java/lang/IndexOutOfBoundsException", Cond.methodLink RL 75 yX4_seen, Cond.instanceMethod yX4_seen, Cond.selects RX4 yX4_seen yX4_seen, Cond.code yX4_seen cX4_seen 2 (some .int), Cond.methodLink RL 78 yX4_end]
def wsL_adds_r3 : List Cond := [Cond.instanceMethod yX4_end, Cond.selects RX4 yX4_end yX4_end, Cond.code yX4_end cX4_end 2 (some .int), Cond.methodLink RL 30 yX4_matches, Cond.instanceMethod yX4_matches, Cond.selects RX4 yX4_matches yX4_matches, Cond.code yX4_matches cX4_matches 5 (some .boolean), Cond.methodLink RX4 54 yX4_requireNameAndPort, Cond.static yX4_requireNameAndPort, Cond.code yX4_requireNameAndPort cX4_requireNameAndPort 2 none, Cond.methodLink RX4 164 yX1_covers, Cond.instanceMethod yX1_covers, Cond.selects RX1 yX1_covers yX1_covers, Cond.code yX1_covers cX1_covers 6 (some .boolean), Cond.fieldLink RX1 57 "HostKeyring$Line" "hashPort" "I", Cond.fieldLink RX1 54 "HostKeyring$Line" "hashSalt" "I", Cond.fieldLink RX1 51 "HostKeyring$Line" "hash" "I", Cond.fieldLink RX1 11 "HostKeyring$Line" "patterns" "[LHostKeyring$Pattern;", Cond.methodLink RX1 47 yX1_hashOf, Cond.static yX1_hashOf, Cond.code yX1_hashOf cX1_hashOf 2 (some .int), Cond.methodLink RX1 60 yX2_fits, Cond.instanceMethod yX2_fits, Cond.selects RX2 yX2_fits yX2_fits]
def wsL_adds_r4 : List Cond := [Cond.initialized RX2, Cond.code yX2_fits cX2_fits 3 (some .boolean), Cond.fieldLink RX2 16 "HostKeyring$Pattern" "port" "I", Cond.fieldLink RX2 13 "HostKeyring$Pattern" "places" "I", Cond.fieldLink RX2 7 "HostKeyring$Pattern" "name" "I", Cond.static yX4_isSameAt, Cond.code yX4_isSameAt cX4_isSameAt 7 (some .boolean), Cond.methodLink RL 81 yX4_linesOf, Cond.instanceMethod yX4_linesOf, Cond.selects RX4 yX4_linesOf yX4_linesOf, Cond.code yX4_linesOf cX4_linesOf 5 (some .long), Cond.methodLink RL 85 yX4_addPattern, Cond.instanceMethod yX4_addPattern, Cond.selects RX4 yX4_addPattern yX4_addPattern, Cond.code yX4_addPattern cX4_addPattern 7 (some .int), Cond.methodLink RX4 58 yX1_takePattern, Cond.instanceMethod yX1_takePattern, Cond.selects RX1 yX1_takePattern yX1_takePattern, Cond.code yX1_takePattern cX1_takePattern 5 (some .int), Cond.classLink RX1 37 "java/lang/IllegalStateException", Cond.classLink RX1 9 RX2, Cond.instantiable RX2 4, Cond.methodLink RX1 44 yX2_init, Cond.instanceMethod yX2_init]
def wsL_adds_r5 : List Cond := [Cond.code yX2_init cX2_init 5 none, Cond.methodLink RX2 1 objectInit, Cond.instanceMethod objectInit, Cond.code objectInit ⟨#[0xb1]⟩ 1 none, Cond.fieldLink RX2 19 "HostKeyring$Pattern" "isDenied" "Z", Cond.methodLink RL 10 yL_name, Cond.static yL_name, Cond.initialized RL, Cond.code yL_name cL_name 1 (some .int)]
def wsL_adds : List Cond := .code yL_adds cL_adds 13 (some .boolean) :: ((wsL_adds_r1 ++ (wsL_adds_r2 ++ (wsL_adds_r3 ++ (wsL_adds_r4 ++ wsL_adds_r5)))) ++ wsX40 ++ wsX10 ++ wsX20 ++ (vx_atS RX4 133 "java/lang/IllegalArgumentException" ["java/lang/RuntimeException", "java/lang/Exception"]).filter goodWord ++ (vx_atS RX4 78 "java/lang/IllegalStateException" ["java/lang/RuntimeException", "java/lang/Exception"]).filter goodWord ++ (vx_atS RX4 174 "java/lang/IndexOutOfBoundsException" ["java/lang/RuntimeException", "java/lang/Exception"]).filter goodWord ++ (vx_atS RX1 41 "java/lang/IllegalStateException" ["java/lang/RuntimeException", "java/lang/Exception"]).filter goodWord)
def wsL_certificates_r1 : List Cond := [Cond.methodLink RL 89 yX4_revokeSpan, Cond.instanceMethod yX4_revokeSpan, Cond.selects RX4 yX4_revokeSpan yX4_revokeSpan, Cond.initialized RX4, Cond.code yX4_revokeSpan cX4_revokeSpan 4 (some .int), Cond.classLink RX4 74 "java/lang/IllegalStateException", Cond.initialized "java/lang/IllegalStateException", Cond.fieldLink RX4 84 "HostKeyring" "spanCount" "I", Cond.fieldLink RX4 23 "HostKeyring" "spans" "[LHostKeyring$Span;", Cond.classLink RX4 21 RX3, Cond.instantiable RX3 3, Cond.initialized RX3, Cond.methodLink RX4 39 yX4_requireKey, Cond.static yX4_requireKey, Cond.code yX4_requireKey cX4_requireKey 1 none, Cond.methodLink RX4 35 yX4_requireWithin, Cond.static yX4_requireWithin, Cond.code yX4_requireWithin cX4_requireWithin 3 none, Cond.classLink RX4 129 "java/lang/IllegalArgumentException", Cond.initialized "java/lang/IllegalArgumentException", Cond.methodLink RX4 89 yX3_init, Cond.instanceMethod yX3_init, Cond.code yX3_init cX3_init 4 none, Cond.methodLink RX3 1 objectInit]
def wsL_certificates_r2 : List Cond := [Cond.instanceMethod objectInit, Cond.code objectInit ⟨#[0xb1]⟩ 1 none, Cond.fieldLink RX3 7 "HostKeyring$Span" "authority" "I", Cond.fieldLink RX3 13 "HostKeyring$Span" "from" "I", Cond.fieldLink RX3 16 "HostKeyring$Span" "to" "I", Cond.methodLink RX4 91 yX4_countRevokedCertificates, Cond.instanceMethod yX4_countRevokedCertificates, Cond.selects RX4 yX4_countRevokedCertificates yX4_countRevokedCertificates, Cond.code yX4_countRevokedCertificates cX4_countRevokedCertificates 3 (some .int), Cond.fieldLink RX4 71 "HostKeyring" "certificateCount" "I", Cond.fieldLink RX4 17 "HostKeyring" "certificates" "[LHostKeyring$Certificate;", Cond.methodLink RX4 238 yX4_isInRevokedSpan, Cond.instanceMethod yX4_isInRevokedSpan, Cond.selects RX4 yX4_isInRevokedSpan yX4_isInRevokedSpan, Cond.code yX4_isInRevokedSpan cX4_isInRevokedSpan 3 (some .boolean), Cond.methodLink RX4 248 yX3_holds, Cond.instanceMethod yX3_holds, Cond.selects RX3 yX3_holds yX3_holds, Cond.code yX3_holds cX3_holds 3 (some .boolean), Cond.methodLink RL 93 yX4_certify, Cond.instanceMethod yX4_certify, Cond.selects RX4 yX4_certify yX4_certify, Cond.code yX4_certify cX4_certify 8 (some .int), Cond.classLink RX4 15 RX0]
def wsL_certificates_r3 : List Cond := [Cond.instantiable RX0 7, Cond.initialized RX0, Cond.methodLink RX4 81 yX0_init, Cond.instanceMethod yX0_init, Cond.code yX0_init cX0_init 8 none, Cond.methodLink RX0 1 objectInit, Cond.fieldLink RX0 7 "HostKeyring$Certificate" "authority" "I", Cond.fieldLink RX0 13 "HostKeyring$Certificate" "key" "I", Cond.fieldLink RX0 16 "HostKeyring$Certificate" "name" "I", Cond.fieldLink RX0 19 "HostKeyring$Certificate" "places" "I", Cond.fieldLink RX0 22 "HostKeyring$Certificate" "serial" "I", Cond.fieldLink RX0 25 "HostKeyring$Certificate" "first" "I", Cond.fieldLink RX0 28 "HostKeyring$Certificate" "last" "I"]
def wsL_certificates : List Cond := .code yL_certificates cL_certificates 8 (some .boolean) :: ((wsL_certificates_r1 ++ (wsL_certificates_r2 ++ wsL_certificates_r3)) ++ wsX40 ++ wsX30 ++ wsX00 ++ (vx_atS RX4 78 "java/lang/IllegalStateException" ["java/lang/RuntimeException", "java/lang/Exception"]).filter goodWord ++ (vx_atS RX4 133 "java/lang/IllegalArgumentException" ["java/lang/RuntimeException", "java/lang/Exception"]).filter goodWord)
def wsL_due_r1 : List Cond := [Cond.methodLink RL 38 yX4_keyOf, Cond.instanceMethod yX4_keyOf, Cond.selects RX4 yX4_keyOf yX4_keyOf, Cond.initialized RX4, Cond.code yX4_keyOf cX4_keyOf 3 (some .int), Cond.methodLink RX4 50 yX4_lineAt, Cond.instanceMethod yX4_lineAt, Cond.selects RX4 yX4_lineAt yX4_lineAt, Cond.code yX4_lineAt cX4_lineAt 2 (some (.object "HostKeyring$Line")), Cond.classLink RX4 170 "java/lang/IndexOutOfBoundsException", Cond.initialized "java/lang/IndexOutOfBoundsException", Cond.fieldLink RX4 47 "HostKeyring" "lineCount" "I", Cond.fieldLink RX4 11 "HostKeyring" "book" "[LHostKeyring$Line;", Cond.methodLink RL 78 yX4_end, Cond.instanceMethod yX4_end, Cond.selects RX4 yX4_end yX4_end, Cond.code yX4_end cX4_end 2 (some .int), Cond.methodLink RL 30 yX4_matches, Cond.instanceMethod yX4_matches, Cond.selects RX4 yX4_matches yX4_matches, Cond.code yX4_matches cX4_matches 5 (some .boolean), Cond.methodLink RX4 54 yX4_requireNameAndPort, Cond.static yX4_requireNameAndPort, Cond.code yX4_requireNameAndPort cX4_requireNameAndPort 2 none]
def wsL_due_r2 : List Cond := [Cond.methodLink RX4 35 yX4_requireWithin, Cond.static yX4_requireWithin, Cond.code yX4_requireWithin cX4_requireWithin 3 none, Cond.classLink RX4 129 "java/lang/IllegalArgumentException", Cond.initialized "java/lang/IllegalArgumentException", Cond.methodLink RX4 164 yX1_covers, Cond.instanceMethod yX1_covers, Cond.selects RX1 yX1_covers yX1_covers, Cond.initialized RX1, Cond.code yX1_covers cX1_covers 6 (some .boolean), Cond.fieldLink RX1 33 "HostKeyring$Line" "isHashed" "Z", Cond.fieldLink RX1 57 "HostKeyring$Line" "hashPort" "I", Cond.fieldLink RX1 54 "HostKeyring$Line" "hashSalt" "I", Cond.fieldLink RX1 51 "HostKeyring$Line" "hash" "I", Cond.fieldLink RX1 30 "HostKeyring$Line" "patternCount" "I", Cond.fieldLink RX1 11 "HostKeyring$Line" "patterns" "[LHostKeyring$Pattern;", Cond.methodLink RX1 47 yX1_hashOf, Cond.static yX1_hashOf, Cond.code yX1_hashOf cX1_hashOf 2 (some .int), Cond.methodLink RX1 60 yX2_fits, Cond.instanceMethod yX2_fits, Cond.selects RX2 yX2_fits yX2_fits, Cond.initialized RX2, Cond.code yX2_fits cX2_fits 3 (some .boolean)]
def wsL_due_r3 : List Cond := [Cond.fieldLink RX2 16 "HostKeyring$Pattern" "port" "I", Cond.fieldLink RX2 13 "HostKeyring$Pattern" "places" "I", Cond.fieldLink RX2 7 "HostKeyring$Pattern" "name" "I", Cond.static yX4_isSameAt, Cond.code yX4_isSameAt cX4_isSameAt 7 (some .boolean)]
def wsL_due : List Cond := .code yL_due cL_due 11 (some .int) :: ((wsL_due_r1 ++ (wsL_due_r2 ++ wsL_due_r3)) ++ wsX10 ++ wsX40 ++ wsX20 ++ (vx_atS RX4 174 "java/lang/IndexOutOfBoundsException" ["java/lang/RuntimeException", "java/lang/Exception"]).filter goodWord ++ (vx_atS RX4 133 "java/lang/IllegalArgumentException" ["java/lang/RuntimeException", "java/lang/Exception"]).filter goodWord)
def wsL_answers_r1 : List Cond := [Cond.methodLink RL 97 yL_due, Cond.static yL_due, Cond.initialized RL, Cond.code yL_due cL_due 11 (some .int), Cond.methodLink RL 38 yX4_keyOf, Cond.instanceMethod yX4_keyOf, Cond.selects RX4 yX4_keyOf yX4_keyOf, Cond.initialized RX4, Cond.code yX4_keyOf cX4_keyOf 3 (some .int), Cond.methodLink RX4 50 yX4_lineAt, Cond.instanceMethod yX4_lineAt, Cond.selects RX4 yX4_lineAt yX4_lineAt, Cond.code yX4_lineAt cX4_lineAt 2 (some (.object "HostKeyring$Line")), Cond.classLink RX4 170 "java/lang/IndexOutOfBoundsException", Cond.initialized "java/lang/IndexOutOfBoundsException", Cond.fieldLink RX4 47 "HostKeyring" "lineCount" "I", Cond.fieldLink RX4 11 "HostKeyring" "book" "[LHostKeyring$Line;", Cond.methodLink RL 78 yX4_end, Cond.instanceMethod yX4_end, Cond.selects RX4 yX4_end yX4_end, Cond.code yX4_end cX4_end 2 (some .int), Cond.methodLink RL 30 yX4_matches, Cond.instanceMethod yX4_matches, Cond.selects RX4 yX4_matches yX4_matches]
def wsL_answers_r2 : List Cond := [Cond.code yX4_matches cX4_matches 5 (some .boolean), Cond.methodLink RX4 54 yX4_requireNameAndPort, Cond.static yX4_requireNameAndPort, Cond.code yX4_requireNameAndPort cX4_requireNameAndPort 2 none, Cond.methodLink RX4 35 yX4_requireWithin, Cond.static yX4_requireWithin, Cond.code yX4_requireWithin cX4_requireWithin 3 none, Cond.classLink RX4 129 "java/lang/IllegalArgumentException", Cond.initialized "java/lang/IllegalArgumentException", Cond.methodLink RX4 164 yX1_covers, Cond.instanceMethod yX1_covers, Cond.selects RX1 yX1_covers yX1_covers, Cond.initialized RX1, Cond.code yX1_covers cX1_covers 6 (some .boolean), Cond.fieldLink RX1 33 "HostKeyring$Line" "isHashed" "Z", Cond.fieldLink RX1 57 "HostKeyring$Line" "hashPort" "I", Cond.fieldLink RX1 54 "HostKeyring$Line" "hashSalt" "I", Cond.fieldLink RX1 51 "HostKeyring$Line" "hash" "I", Cond.fieldLink RX1 30 "HostKeyring$Line" "patternCount" "I", Cond.fieldLink RX1 11 "HostKeyring$Line" "patterns" "[LHostKeyring$Pattern;", Cond.methodLink RX1 47 yX1_hashOf, Cond.static yX1_hashOf, Cond.code yX1_hashOf cX1_hashOf 2 (some .int), Cond.methodLink RX1 60 yX2_fits]
def wsL_answers_r3 : List Cond := [Cond.instanceMethod yX2_fits, Cond.selects RX2 yX2_fits yX2_fits, Cond.initialized RX2, Cond.code yX2_fits cX2_fits 3 (some .boolean), Cond.fieldLink RX2 16 "HostKeyring$Pattern" "port" "I", Cond.fieldLink RX2 13 "HostKeyring$Pattern" "places" "I", Cond.fieldLink RX2 7 "HostKeyring$Pattern" "name" "I", Cond.static yX4_isSameAt, Cond.code yX4_isSameAt cX4_isSameAt 7 (some .boolean), Cond.methodLink RL 101 yX4_judge, Cond.instanceMethod yX4_judge, Cond.selects RX4 yX4_judge yX4_judge, Cond.code yX4_judge cX4_judge 6 (some .int), Cond.methodLink RX4 99 yX4_certificateAt, Cond.instanceMethod yX4_certificateAt, Cond.selects RX4 yX4_certificateAt yX4_certificateAt, Cond.code yX4_certificateAt cX4_certificateAt 2 (some (.object "HostKeyring$Certificate")), Cond.fieldLink RX4 71 "HostKeyring" "certificateCount" "I", Cond.fieldLink RX4 17 "HostKeyring" "certificates" "[LHostKeyring$Certificate;", Cond.methodLink RX4 39 yX4_requireKey, Cond.static yX4_requireKey, Cond.code yX4_requireKey cX4_requireKey 1 none, Cond.methodLink RX4 103 yX4_judgementOf, Cond.instanceMethod yX4_judgementOf]
def wsL_answers_r4 : List Cond := [Cond.selects RX4 yX4_judgementOf yX4_judgementOf, Cond.code yX4_judgementOf cX4_judgementOf 6 (some .int), Cond.methodLink RX4 107 yX4_authorityOf, Cond.static yX4_authorityOf, Cond.code yX4_authorityOf cX4_authorityOf 1 (some .int), Cond.methodLink RX4 134 yX4_judgementByLines, Cond.instanceMethod yX4_judgementByLines, Cond.selects RX4 yX4_judgementByLines yX4_judgementByLines, Cond.code yX4_judgementByLines cX4_judgementByLines 7 (some .int), Cond.methodLink RX4 209 Lib.Math.min.name, Cond.static Lib.Math.min.name, Cond.initialized "java/lang/Math", Cond.code Lib.Math.min.name Lib.Math.min.code 2 (some .int), Cond.methodLink RX4 205 yX4_judgementByMatch, Cond.instanceMethod yX4_judgementByMatch, Cond.selects RX4 yX4_judgementByMatch yX4_judgementByMatch, Cond.code yX4_judgementByMatch cX4_judgementByMatch 4 (some .int), Cond.methodLink RX4 197 yX1_hasEither, Cond.instanceMethod yX1_hasEither, Cond.selects RX1 yX1_hasEither yX1_hasEither, Cond.code yX1_hasEither cX1_hasEither 3 (some .boolean), Cond.fieldLink RX1 21 "HostKeyring$Line" "key" "I", Cond.methodLink RX4 182 yX4_isLivePlain, Cond.instanceMethod yX4_isLivePlain]
def wsL_answers_r5 : List Cond := [Cond.selects RX4 yX4_isLivePlain yX4_isLivePlain, Cond.code yX4_isLivePlain cX4_isLivePlain 2 (some .boolean), Cond.fieldLink RX4 146 "HostKeyring" "day" "I", Cond.methodLink RX4 193 yX1_hasEnded, Cond.instanceMethod yX1_hasEnded, Cond.selects RX1 yX1_hasEnded yX1_hasEnded, Cond.code yX1_hasEnded cX1_hasEnded 2 (some .boolean), Cond.fieldLink RX1 27 "HostKeyring$Line" "end" "I", Cond.methodLink RX4 215 yX4_kindOf, Cond.static yX4_kindOf, Cond.code yX4_kindOf cX4_kindOf 1 (some .int), Cond.methodLink RX4 201 yX4_isGood, Cond.instanceMethod yX4_isGood, Cond.selects RX4 yX4_isGood yX4_isGood, Cond.code yX4_isGood cX4_isGood 4 (some .boolean), Cond.methodLink RX4 228 yX4_isSameAt, Cond.methodLink RX4 238 yX4_isInRevokedSpan, Cond.instanceMethod yX4_isInRevokedSpan, Cond.selects RX4 yX4_isInRevokedSpan yX4_isInRevokedSpan, Cond.code yX4_isInRevokedSpan cX4_isInRevokedSpan 3 (some .boolean), Cond.fieldLink RX4 84 "HostKeyring" "spanCount" "I", Cond.fieldLink RX4 23 "HostKeyring" "spans" "[LHostKeyring$Span;", Cond.methodLink RX4 248 yX3_holds, Cond.instanceMethod yX3_holds]
def wsL_answers_r6 : List Cond := [Cond.selects RX3 yX3_holds yX3_holds, Cond.initialized RX3, Cond.code yX3_holds cX3_holds 3 (some .boolean), Cond.fieldLink RX3 7 "HostKeyring$Span" "authority" "I", Cond.fieldLink RX3 13 "HostKeyring$Span" "from" "I", Cond.fieldLink RX3 16 "HostKeyring$Span" "to" "I", Cond.methodLink RX4 242 yX4_hasAuthority, Cond.instanceMethod yX4_hasAuthority, Cond.selects RX4 yX4_hasAuthority yX4_hasAuthority, Cond.code yX4_hasAuthority cX4_hasAuthority 6 (some .boolean), Cond.methodLink RL 105 yX4_judgeByReading, Cond.instanceMethod yX4_judgeByReading, Cond.selects RX4 yX4_judgeByReading yX4_judgeByReading, Cond.code yX4_judgeByReading cX4_judgeByReading 4 (some .int), Cond.methodLink RL 108 yX4_answer, Cond.instanceMethod yX4_answer, Cond.selects RX4 yX4_answer yX4_answer, Cond.code yX4_answer cX4_answer 7 (some .int), Cond.fieldLink RX4 31 "HostKeyring" "waitingKey" "I", Cond.fieldLink RX4 27 "HostKeyring" "firstSight" "I", Cond.methodLink RX4 111 yX4_seeToday, Cond.instanceMethod yX4_seeToday, Cond.selects RX4 yX4_seeToday yX4_seeToday, Cond.code yX4_seeToday cX4_seeToday 7 none]
def wsL_answers_r7 : List Cond := [Cond.methodLink RX4 115 yX4_letWait, Cond.instanceMethod yX4_letWait, Cond.selects RX4 yX4_letWait yX4_letWait, Cond.code yX4_letWait cX4_letWait 4 none, Cond.fieldLink RX4 123 "HostKeyring" "waitingName" "I", Cond.fieldLink RX4 126 "HostKeyring" "waitingPort" "I", Cond.methodLink RX4 118 yX4_appendSighted, Cond.instanceMethod yX4_appendSighted, Cond.selects RX4 yX4_appendSighted yX4_appendSighted, Cond.code yX4_appendSighted cX4_appendSighted 5 none, Cond.fieldLink RX4 95 "HostKeyring" "isHashing" "Z", Cond.methodLink RX4 43 yX4_appendLine, Cond.instanceMethod yX4_appendLine, Cond.selects RX4 yX4_appendLine yX4_appendLine, Cond.code yX4_appendLine cX4_appendLine 4 (some (.object "HostKeyring$Line")), Cond.classLink RX4 74 "java/lang/IllegalStateException", Cond.initialized "java/lang/IllegalStateException", Cond.methodLink RX4 179 yX1_begin, Cond.instanceMethod yX1_begin, Cond.selects RX1 yX1_begin yX1_begin, Cond.code yX1_begin cX1_begin 4 none, Cond.fieldLink RX1 17 "HostKeyring$Line" "mark" "I", Cond.fieldLink RX1 24 "HostKeyring$Line" "seen" "I", Cond.methodLink RX4 62 yX1_takeHash]
def wsL_answers_r8 : List Cond := [Cond.instanceMethod yX1_takeHash, Cond.selects RX1 yX1_takeHash yX1_takeHash, Cond.code yX1_takeHash cX1_takeHash 4 none, Cond.methodLink RX4 58 yX1_takePattern, Cond.instanceMethod yX1_takePattern, Cond.selects RX1 yX1_takePattern yX1_takePattern, Cond.code yX1_takePattern cX1_takePattern 5 (some .int), Cond.classLink RX1 37 "java/lang/IllegalStateException", Cond.classLink RX1 9 RX2, Cond.instantiable RX2 4, Cond.methodLink RX1 44 yX2_init, Cond.instanceMethod yX2_init, Cond.code yX2_init cX2_init 5 none, Cond.methodLink RX2 1 objectInit, Cond.instanceMethod objectInit, Cond.code objectInit ⟨#[0xb1]⟩ 1 none, Cond.fieldLink RX2 19 "HostKeyring$Pattern" "isDenied" "Z", Cond.methodLink RL 20 yX4_lines, Cond.instanceMethod yX4_lines, Cond.selects RX4 yX4_lines yX4_lines, Cond.code yX4_lines cX4_lines 1 (some .int), Cond.methodLink RL 111 yX4_waiting, Cond.instanceMethod yX4_waiting, Cond.selects RX4 yX4_waiting yX4_waiting]
def wsL_answers_r9 : List Cond := [Cond.code yX4_waiting cX4_waiting 1 (some .int), Cond.methodLink RL 75 yX4_seen, Cond.instanceMethod yX4_seen, Cond.selects RX4 yX4_seen yX4_seen, Cond.code yX4_seen cX4_seen 2 (some .int)]
def wsL_answers : List Cond := .code yL_answers cL_answers 15 (some .boolean) :: ((wsL_answers_r1 ++ (wsL_answers_r2 ++ (wsL_answers_r3 ++ (wsL_answers_r4 ++ (wsL_answers_r5 ++ (wsL_answers_r6 ++ (wsL_answers_r7 ++ (wsL_answers_r8 ++ wsL_answers_r9)))))))) ++ wsX10 ++ wsX40 ++ wsX20 ++ wsX00 ++ wsX30 ++ (vx_atS RX4 174 "java/lang/IndexOutOfBoundsException" ["java/lang/RuntimeException", "java/lang/Exception"]).filter goodWord ++ (vx_atS RX4 133 "java/lang/IllegalArgumentException" ["java/lang/RuntimeException", "java/lang/Exception"]).filter goodWord ++ (vx_atS RX4 78 "java/lang/IllegalStateException" ["java/lang/RuntimeException", "java/lang/Exception"]).filter goodWord ++ (vx_atS RX1 41 "java/lang/IllegalStateException" ["java/lang/RuntimeException", "java/lang/Exception"]).filter goodWord)
def wsL_turns_r1 : List Cond := [Cond.methodLink RL 101 yX4_judge, Cond.instanceMethod yX4_judge, Cond.selects RX4 yX4_judge yX4_judge, Cond.initialized RX4, Cond.code yX4_judge cX4_judge 6 (some .int), Cond.methodLink RX4 99 yX4_certificateAt, Cond.instanceMethod yX4_certificateAt, Cond.selects RX4 yX4_certificateAt yX4_certificateAt, Cond.code yX4_certificateAt cX4_certificateAt 2 (some (.object "HostKeyring$Certificate")), Cond.classLink RX4 170 "java/lang/IndexOutOfBoundsException", Cond.initialized "java/lang/IndexOutOfBoundsException", Cond.fieldLink RX4 71 "HostKeyring" "certificateCount" "I", Cond.fieldLink RX4 17 "HostKeyring" "certificates" "[LHostKeyring$Certificate;", Cond.methodLink RX4 54 yX4_requireNameAndPort, Cond.static yX4_requireNameAndPort, Cond.code yX4_requireNameAndPort cX4_requireNameAndPort 2 none, Cond.methodLink RX4 35 yX4_requireWithin, Cond.static yX4_requireWithin, Cond.code yX4_requireWithin cX4_requireWithin 3 none, Cond.classLink RX4 129 "java/lang/IllegalArgumentException", Cond.initialized "java/lang/IllegalArgumentException", Cond.methodLink RX4 39 yX4_requireKey, Cond.static yX4_requireKey, Cond.code yX4_requireKey cX4_requireKey 1 none]
def wsL_turns_r2 : List Cond := [Cond.methodLink RX4 103 yX4_judgementOf, Cond.instanceMethod yX4_judgementOf, Cond.selects RX4 yX4_judgementOf yX4_judgementOf, Cond.code yX4_judgementOf cX4_judgementOf 6 (some .int), Cond.methodLink RX4 107 yX4_authorityOf, Cond.static yX4_authorityOf, Cond.code yX4_authorityOf cX4_authorityOf 1 (some .int), Cond.methodLink RX4 134 yX4_judgementByLines, Cond.instanceMethod yX4_judgementByLines, Cond.selects RX4 yX4_judgementByLines yX4_judgementByLines, Cond.code yX4_judgementByLines cX4_judgementByLines 7 (some .int), Cond.fieldLink RX4 47 "HostKeyring" "lineCount" "I", Cond.fieldLink RX4 11 "HostKeyring" "book" "[LHostKeyring$Line;", Cond.methodLink RX4 209 Lib.Math.min.name, Cond.static Lib.Math.min.name, Cond.initialized "java/lang/Math", Cond.code Lib.Math.min.name Lib.Math.min.code 2 (some .int), Cond.methodLink RX4 164 yX1_covers, Cond.instanceMethod yX1_covers, Cond.selects RX1 yX1_covers yX1_covers, Cond.initialized RX1, Cond.code yX1_covers cX1_covers 6 (some .boolean), Cond.fieldLink RX1 33 "HostKeyring$Line" "isHashed" "Z", Cond.fieldLink RX1 57 "HostKeyring$Line" "hashPort" "I"]
def wsL_turns_r3 : List Cond := [Cond.fieldLink RX1 54 "HostKeyring$Line" "hashSalt" "I", Cond.fieldLink RX1 51 "HostKeyring$Line" "hash" "I", Cond.fieldLink RX1 30 "HostKeyring$Line" "patternCount" "I", Cond.fieldLink RX1 11 "HostKeyring$Line" "patterns" "[LHostKeyring$Pattern;", Cond.methodLink RX1 47 yX1_hashOf, Cond.static yX1_hashOf, Cond.code yX1_hashOf cX1_hashOf 2 (some .int), Cond.methodLink RX1 60 yX2_fits, Cond.instanceMethod yX2_fits, Cond.selects RX2 yX2_fits yX2_fits, Cond.initialized RX2, Cond.code yX2_fits cX2_fits 3 (some .boolean), Cond.fieldLink RX2 16 "HostKeyring$Pattern" "port" "I", Cond.fieldLink RX2 13 "HostKeyring$Pattern" "places" "I", Cond.fieldLink RX2 7 "HostKeyring$Pattern" "name" "I", Cond.static yX4_isSameAt, Cond.code yX4_isSameAt cX4_isSameAt 7 (some .boolean), Cond.methodLink RX4 205 yX4_judgementByMatch, Cond.instanceMethod yX4_judgementByMatch, Cond.selects RX4 yX4_judgementByMatch yX4_judgementByMatch, Cond.code yX4_judgementByMatch cX4_judgementByMatch 4 (some .int), Cond.methodLink RX4 197 yX1_hasEither, Cond.instanceMethod yX1_hasEither, Cond.selects RX1 yX1_hasEither yX1_hasEither]
def wsL_turns_r4 : List Cond := [Cond.code yX1_hasEither cX1_hasEither 3 (some .boolean), Cond.fieldLink RX1 21 "HostKeyring$Line" "key" "I", Cond.methodLink RX4 182 yX4_isLivePlain, Cond.instanceMethod yX4_isLivePlain, Cond.selects RX4 yX4_isLivePlain yX4_isLivePlain, Cond.code yX4_isLivePlain cX4_isLivePlain 2 (some .boolean), Cond.fieldLink RX4 146 "HostKeyring" "day" "I", Cond.methodLink RX4 193 yX1_hasEnded, Cond.instanceMethod yX1_hasEnded, Cond.selects RX1 yX1_hasEnded yX1_hasEnded, Cond.code yX1_hasEnded cX1_hasEnded 2 (some .boolean), Cond.fieldLink RX1 27 "HostKeyring$Line" "end" "I", Cond.methodLink RX4 215 yX4_kindOf, Cond.static yX4_kindOf, Cond.code yX4_kindOf cX4_kindOf 1 (some .int), Cond.methodLink RX4 201 yX4_isGood, Cond.instanceMethod yX4_isGood, Cond.selects RX4 yX4_isGood yX4_isGood, Cond.code yX4_isGood cX4_isGood 4 (some .boolean), Cond.methodLink RX4 228 yX4_isSameAt, Cond.methodLink RX4 238 yX4_isInRevokedSpan, Cond.instanceMethod yX4_isInRevokedSpan, Cond.selects RX4 yX4_isInRevokedSpan yX4_isInRevokedSpan, Cond.code yX4_isInRevokedSpan cX4_isInRevokedSpan 3 (some .boolean)]
def wsL_turns_r5 : List Cond := [Cond.fieldLink RX4 84 "HostKeyring" "spanCount" "I", Cond.fieldLink RX4 23 "HostKeyring" "spans" "[LHostKeyring$Span;", Cond.methodLink RX4 248 yX3_holds, Cond.instanceMethod yX3_holds, Cond.selects RX3 yX3_holds yX3_holds, Cond.initialized RX3, Cond.code yX3_holds cX3_holds 3 (some .boolean), Cond.fieldLink RX3 7 "HostKeyring$Span" "authority" "I", Cond.fieldLink RX3 13 "HostKeyring$Span" "from" "I", Cond.fieldLink RX3 16 "HostKeyring$Span" "to" "I", Cond.methodLink RX4 242 yX4_hasAuthority, Cond.instanceMethod yX4_hasAuthority, Cond.selects RX4 yX4_hasAuthority yX4_hasAuthority, Cond.code yX4_hasAuthority cX4_hasAuthority 6 (some .boolean), Cond.methodLink RL 105 yX4_judgeByReading, Cond.instanceMethod yX4_judgeByReading, Cond.selects RX4 yX4_judgeByReading yX4_judgeByReading, Cond.code yX4_judgeByReading cX4_judgeByReading 4 (some .int), Cond.methodLink RL 78 yX4_end, Cond.instanceMethod yX4_end, Cond.selects RX4 yX4_end yX4_end, Cond.code yX4_end cX4_end 2 (some .int), Cond.methodLink RX4 50 yX4_lineAt, Cond.instanceMethod yX4_lineAt]
def wsL_turns_r6 : List Cond := [Cond.selects RX4 yX4_lineAt yX4_lineAt, Cond.code yX4_lineAt cX4_lineAt 2 (some (.object "HostKeyring$Line")), Cond.methodLink RL 38 yX4_keyOf, Cond.instanceMethod yX4_keyOf, Cond.selects RX4 yX4_keyOf yX4_keyOf, Cond.code yX4_keyOf cX4_keyOf 3 (some .int), Cond.methodLink RL 30 yX4_matches, Cond.instanceMethod yX4_matches, Cond.selects RX4 yX4_matches yX4_matches, Cond.code yX4_matches cX4_matches 5 (some .boolean), Cond.methodLink RL 114 yX4_turn, Cond.instanceMethod yX4_turn, Cond.selects RX4 yX4_turn yX4_turn, Cond.code yX4_turn cX4_turn 6 (some .int), Cond.classLink RX4 74 "java/lang/IllegalStateException", Cond.initialized "java/lang/IllegalStateException", Cond.methodLink RX4 142 yX4_turnLines, Cond.instanceMethod yX4_turnLines, Cond.selects RX4 yX4_turnLines yX4_turnLines, Cond.code yX4_turnLines cX4_turnLines 9 (some .int), Cond.methodLink RX4 43 yX4_appendLine, Cond.instanceMethod yX4_appendLine, Cond.selects RX4 yX4_appendLine yX4_appendLine, Cond.code yX4_appendLine cX4_appendLine 4 (some (.object "HostKeyring$Line"))]
def wsL_turns_r7 : List Cond := [Cond.methodLink RX4 179 yX1_begin, Cond.instanceMethod yX1_begin, Cond.selects RX1 yX1_begin yX1_begin, Cond.code yX1_begin cX1_begin 4 none, Cond.fieldLink RX1 17 "HostKeyring$Line" "mark" "I", Cond.fieldLink RX1 24 "HostKeyring$Line" "seen" "I", Cond.methodLink RX4 186 yX1_takeMatching, Cond.instanceMethod yX1_takeMatching, Cond.selects RX1 yX1_takeMatching yX1_takeMatching, Cond.code yX1_takeMatching cX1_takeMatching 3 none, Cond.methodLink RX4 190 yX1_endBy, Cond.instanceMethod yX1_endBy, Cond.selects RX1 yX1_endBy yX1_endBy, Cond.code yX1_endBy cX1_endBy 2 none, Cond.methodLink RL 20 yX4_lines, Cond.instanceMethod yX4_lines, Cond.selects RX4 yX4_lines yX4_lines, Cond.code yX4_lines cX4_lines 1 (some .int), Cond.methodLink RL 75 yX4_seen, Cond.instanceMethod yX4_seen, Cond.selects RX4 yX4_seen yX4_seen, Cond.code yX4_seen cX4_seen 2 (some .int)]
def wsL_turns : List Cond := .code yL_turns cL_turns 11 (some .boolean) :: ((wsL_turns_r1 ++ (wsL_turns_r2 ++ (wsL_turns_r3 ++ (wsL_turns_r4 ++ (wsL_turns_r5 ++ (wsL_turns_r6 ++ wsL_turns_r7)))))) ++ wsX40 ++ wsX00 ++ wsX10 ++ wsX20 ++ wsX30 ++ (vx_atS RX4 174 "java/lang/IndexOutOfBoundsException" ["java/lang/RuntimeException", "java/lang/Exception"]).filter goodWord ++ (vx_atS RX4 133 "java/lang/IllegalArgumentException" ["java/lang/RuntimeException", "java/lang/Exception"]).filter goodWord ++ (vx_atS RX4 78 "java/lang/IllegalStateException" ["java/lang/RuntimeException", "java/lang/Exception"]).filter goodWord)
def wsL_confirms_r1 : List Cond := [Cond.methodLink RL 111 yX4_waiting, Cond.instanceMethod yX4_waiting, Cond.selects RX4 yX4_waiting yX4_waiting, Cond.initialized RX4, Cond.code yX4_waiting cX4_waiting 1 (some .int), Cond.fieldLink RX4 31 "HostKeyring" "waitingKey" "I", Cond.methodLink RL 117 yX4_confirm, Cond.instanceMethod yX4_confirm, Cond.selects RX4 yX4_confirm yX4_confirm, Cond.code yX4_confirm cX4_confirm 1 (some .int), Cond.classLink RX4 74 "java/lang/IllegalStateException", Cond.initialized "java/lang/IllegalStateException", Cond.fieldLink RX4 123 "HostKeyring" "waitingName" "I", Cond.fieldLink RX4 126 "HostKeyring" "waitingPort" "I", Cond.fieldLink RX4 47 "HostKeyring" "lineCount" "I", Cond.methodLink RX4 118 yX4_appendSighted, Cond.instanceMethod yX4_appendSighted, Cond.selects RX4 yX4_appendSighted yX4_appendSighted, Cond.code yX4_appendSighted cX4_appendSighted 5 none, Cond.fieldLink RX4 95 "HostKeyring" "isHashing" "Z", Cond.methodLink RX4 43 yX4_appendLine, Cond.instanceMethod yX4_appendLine, Cond.selects RX4 yX4_appendLine yX4_appendLine, Cond.code yX4_appendLine cX4_appendLine 4 (some (.object "HostKeyring$Line"))]
def wsL_confirms_r2 : List Cond := [Cond.fieldLink RX4 11 "HostKeyring" "book" "[LHostKeyring$Line;", Cond.fieldLink RX4 146 "HostKeyring" "day" "I", Cond.methodLink RX4 179 yX1_begin, Cond.instanceMethod yX1_begin, Cond.selects RX1 yX1_begin yX1_begin, Cond.initialized RX1, Cond.code yX1_begin cX1_begin 4 none, Cond.fieldLink RX1 17 "HostKeyring$Line" "mark" "I", Cond.fieldLink RX1 21 "HostKeyring$Line" "key" "I", Cond.fieldLink RX1 24 "HostKeyring$Line" "seen" "I", Cond.fieldLink RX1 27 "HostKeyring$Line" "end" "I", Cond.fieldLink RX1 30 "HostKeyring$Line" "patternCount" "I", Cond.fieldLink RX1 33 "HostKeyring$Line" "isHashed" "Z", Cond.methodLink RX4 62 yX1_takeHash, Cond.instanceMethod yX1_takeHash, Cond.selects RX1 yX1_takeHash yX1_takeHash, Cond.code yX1_takeHash cX1_takeHash 4 none, Cond.fieldLink RX1 51 "HostKeyring$Line" "hash" "I", Cond.fieldLink RX1 54 "HostKeyring$Line" "hashSalt" "I", Cond.fieldLink RX1 57 "HostKeyring$Line" "hashPort" "I", Cond.methodLink RX1 47 yX1_hashOf, Cond.static yX1_hashOf, Cond.code yX1_hashOf cX1_hashOf 2 (some .int), Cond.methodLink RX4 58 yX1_takePattern]
def wsL_confirms_r3 : List Cond := [Cond.instanceMethod yX1_takePattern, Cond.selects RX1 yX1_takePattern yX1_takePattern, Cond.code yX1_takePattern cX1_takePattern 5 (some .int), Cond.classLink RX1 37 "java/lang/IllegalStateException", Cond.fieldLink RX1 11 "HostKeyring$Line" "patterns" "[LHostKeyring$Pattern;", Cond.classLink RX1 9 RX2, Cond.instantiable RX2 4, Cond.initialized RX2, Cond.methodLink RX1 44 yX2_init, Cond.instanceMethod yX2_init, Cond.code yX2_init cX2_init 5 none, Cond.methodLink RX2 1 objectInit, Cond.instanceMethod objectInit, Cond.code objectInit ⟨#[0xb1]⟩ 1 none, Cond.fieldLink RX2 7 "HostKeyring$Pattern" "name" "I", Cond.fieldLink RX2 13 "HostKeyring$Pattern" "places" "I", Cond.fieldLink RX2 16 "HostKeyring$Pattern" "port" "I", Cond.fieldLink RX2 19 "HostKeyring$Pattern" "isDenied" "Z", Cond.methodLink RL 38 yX4_keyOf, Cond.instanceMethod yX4_keyOf, Cond.selects RX4 yX4_keyOf yX4_keyOf, Cond.code yX4_keyOf cX4_keyOf 3 (some .int), Cond.methodLink RX4 50 yX4_lineAt, Cond.instanceMethod yX4_lineAt]
def wsL_confirms_r4 : List Cond := [Cond.selects RX4 yX4_lineAt yX4_lineAt, Cond.code yX4_lineAt cX4_lineAt 2 (some (.object "HostKeyring$Line")), Cond.classLink RX4 170 "java/lang/IndexOutOfBoundsException", Cond.initialized "java/lang/IndexOutOfBoundsException", Cond.methodLink RL 75 yX4_seen, Cond.instanceMethod yX4_seen, Cond.selects RX4 yX4_seen yX4_seen, Cond.code yX4_seen cX4_seen 2 (some .int)]
def wsL_confirms : List Cond := .code yL_confirms cL_confirms 3 (some .boolean) :: ((wsL_confirms_r1 ++ (wsL_confirms_r2 ++ (wsL_confirms_r3 ++ wsL_confirms_r4))) ++ wsX40 ++ wsX10 ++ wsX20 ++ (vx_atS RX4 78 "java/lang/IllegalStateException" ["java/lang/RuntimeException", "java/lang/Exception"]).filter goodWord ++ (vx_atS RX1 41 "java/lang/IllegalStateException" ["java/lang/RuntimeException", "java/lang/Exception"]).filter goodWord ++ (vx_atS RX4 174 "java/lang/IndexOutOfBoundsException" ["java/lang/RuntimeException", "java/lang/Exception"]).filter goodWord)
def wsL_cleans_r1 : List Cond := [Cond.methodLink RL 78 yX4_end, Cond.instanceMethod yX4_end, Cond.selects RX4 yX4_end yX4_end, Cond.initialized RX4, Cond.code yX4_end cX4_end 2 (some .int), Cond.methodLink RX4 50 yX4_lineAt, Cond.instanceMethod yX4_lineAt, Cond.selects RX4 yX4_lineAt yX4_lineAt, Cond.code yX4_lineAt cX4_lineAt 2 (some (.object "HostKeyring$Line")), Cond.classLink RX4 170 "java/lang/IndexOutOfBoundsException", Cond.initialized "java/lang/IndexOutOfBoundsException", Cond.fieldLink RX4 47 "HostKeyring" "lineCount" "I", Cond.fieldLink RX4 11 "HostKeyring" "book" "[LHostKeyring$Line;", Cond.methodLink RL 38 yX4_keyOf, Cond.instanceMethod yX4_keyOf, Cond.selects RX4 yX4_keyOf yX4_keyOf, Cond.code yX4_keyOf cX4_keyOf 3 (some .int), Cond.methodLink RL 75 yX4_seen, Cond.instanceMethod yX4_seen, Cond.selects RX4 yX4_seen yX4_seen, Cond.code yX4_seen cX4_seen 2 (some .int), Cond.methodLink RL 120 yX4_clean, Cond.instanceMethod yX4_clean, Cond.selects RX4 yX4_clean yX4_clean]
def wsL_cleans_r2 : List Cond := [Cond.code yX4_clean cX4_clean 4 (some .int), Cond.methodLink RX4 35 yX4_requireWithin, Cond.static yX4_requireWithin, Cond.code yX4_requireWithin cX4_requireWithin 3 none, Cond.classLink RX4 129 "java/lang/IllegalArgumentException", Cond.initialized "java/lang/IllegalArgumentException", Cond.methodLink RX4 151 yX4_isToBeCleaned, Cond.instanceMethod yX4_isToBeCleaned, Cond.selects RX4 yX4_isToBeCleaned yX4_isToBeCleaned, Cond.code yX4_isToBeCleaned cX4_isToBeCleaned 3 (some .boolean), Cond.fieldLink RX4 146 "HostKeyring" "day" "I", Cond.methodLink RX4 193 yX1_hasEnded, Cond.instanceMethod yX1_hasEnded, Cond.selects RX1 yX1_hasEnded yX1_hasEnded, Cond.initialized RX1, Cond.code yX1_hasEnded cX1_hasEnded 2 (some .boolean), Cond.fieldLink RX1 27 "HostKeyring$Line" "end" "I", Cond.methodLink RX4 68 yX4_takeOut, Cond.instanceMethod yX4_takeOut, Cond.selects RX4 yX4_takeOut yX4_takeOut, Cond.code yX4_takeOut cX4_takeOut 4 none, Cond.methodLink RL 20 yX4_lines, Cond.instanceMethod yX4_lines, Cond.selects RX4 yX4_lines yX4_lines]
def wsL_cleans_r3 : List Cond := [Cond.code yX4_lines cX4_lines 1 (some .int)]
def wsL_cleans : List Cond := .code yL_cleans cL_cleans 6 (some .boolean) :: ((wsL_cleans_r1 ++ (wsL_cleans_r2 ++ wsL_cleans_r3)) ++ wsX10 ++ wsX40 ++ (vx_atS RX4 174 "java/lang/IndexOutOfBoundsException" ["java/lang/RuntimeException", "java/lang/Exception"]).filter goodWord ++ (vx_atS RX4 133 "java/lang/IllegalArgumentException" ["java/lang/RuntimeException", "java/lang/Exception"]).filter goodWord)
def wsL_step_r1 : List Cond := [Cond.methodLink RL 10 yL_name, Cond.static yL_name, Cond.initialized RL, Cond.code yL_name cL_name 1 (some .int), Cond.methodLink RL 16 yL_adds, Cond.static yL_adds, Cond.code yL_adds cL_adds 13 (some .boolean), Cond.methodLink RL 72 yX4_addLine, Cond.instanceMethod yX4_addLine, Cond.selects RX4 yX4_addLine yX4_addLine, Cond.initialized RX4, Cond.code yX4_addLine cX4_addLine 3 (some .int), Cond.fieldLink RX4 47 "HostKeyring" "lineCount" "I", Cond.methodLink RX4 35 yX4_requireWithin, Cond.static yX4_requireWithin, Cond.code yX4_requireWithin cX4_requireWithin 3 none, Cond.classLink RX4 129 "java/lang/IllegalArgumentException", Cond.initialized "java/lang/IllegalArgumentException", Cond.methodLink RX4 39 yX4_requireKey, Cond.static yX4_requireKey, Cond.code yX4_requireKey cX4_requireKey 1 none, Cond.methodLink RX4 43 yX4_appendLine, Cond.instanceMethod yX4_appendLine, Cond.selects RX4 yX4_appendLine yX4_appendLine]
def wsL_step_r2 : List Cond := [Cond.code yX4_appendLine cX4_appendLine 4 (some (.object "HostKeyring$Line")), Cond.classLink RX4 74 "java/lang/IllegalStateException", Cond.initialized "java/lang/IllegalStateException", Cond.fieldLink RX4 11 "HostKeyring" "book" "[LHostKeyring$Line;", Cond.fieldLink RX4 146 "HostKeyring" "day" "I", Cond.methodLink RX4 179 yX1_begin, Cond.instanceMethod yX1_begin, Cond.selects RX1 yX1_begin yX1_begin, Cond.initialized RX1, Cond.code yX1_begin cX1_begin 4 none, Cond.fieldLink RX1 17 "HostKeyring$Line" "mark" "I", Cond.fieldLink RX1 21 "HostKeyring$Line" "key" "I", Cond.fieldLink RX1 24 "HostKeyring$Line" "seen" "I", Cond.fieldLink RX1 27 "HostKeyring$Line" "end" "I", Cond.fieldLink RX1 30 "HostKeyring$Line" "patternCount" "I", Cond.fieldLink RX1 33 "HostKeyring$Line" "isHashed" "Z", Cond.methodLink RL 38 yX4_keyOf, Cond.instanceMethod yX4_keyOf, Cond.selects RX4 yX4_keyOf yX4_keyOf, Cond.code yX4_keyOf cX4_keyOf 3 (some .int), Cond.methodLink RX4 50 yX4_lineAt, Cond.instanceMethod yX4_lineAt, Cond.selects RX4 yX4_lineAt yX4_lineAt, Cond.code yX4_lineAt cX4_lineAt 2 (some (.object "HostKeyring$Line"))]
def wsL_step_r3 : List Cond := [Cond.classLink RX4 170 "java/lang/IndexOutOfBoundsException", Cond.initialized "java/lang/IndexOutOfBoundsException", Cond.methodLink RL 75 yX4_seen, Cond.instanceMethod yX4_seen, Cond.selects RX4 yX4_seen yX4_seen, Cond.code yX4_seen cX4_seen 2 (some .int), Cond.methodLink RL 78 yX4_end, Cond.instanceMethod yX4_end, Cond.selects RX4 yX4_end yX4_end, Cond.code yX4_end cX4_end 2 (some .int), Cond.methodLink RL 30 yX4_matches, Cond.instanceMethod yX4_matches, Cond.selects RX4 yX4_matches yX4_matches, Cond.code yX4_matches cX4_matches 5 (some .boolean), Cond.methodLink RX4 54 yX4_requireNameAndPort, Cond.static yX4_requireNameAndPort, Cond.code yX4_requireNameAndPort cX4_requireNameAndPort 2 none, Cond.methodLink RX4 164 yX1_covers, Cond.instanceMethod yX1_covers, Cond.selects RX1 yX1_covers yX1_covers, Cond.code yX1_covers cX1_covers 6 (some .boolean), Cond.fieldLink RX1 57 "HostKeyring$Line" "hashPort" "I", Cond.fieldLink RX1 54 "HostKeyring$Line" "hashSalt" "I", Cond.fieldLink RX1 51 "HostKeyring$Line" "hash" "I"]
def wsL_step_r4 : List Cond := [Cond.fieldLink RX1 11 "HostKeyring$Line" "patterns" "[LHostKeyring$Pattern;", Cond.methodLink RX1 47 yX1_hashOf, Cond.static yX1_hashOf, Cond.code yX1_hashOf cX1_hashOf 2 (some .int), Cond.methodLink RX1 60 yX2_fits, Cond.instanceMethod yX2_fits, Cond.selects RX2 yX2_fits yX2_fits, Cond.initialized RX2, Cond.code yX2_fits cX2_fits 3 (some .boolean), Cond.fieldLink RX2 16 "HostKeyring$Pattern" "port" "I", Cond.fieldLink RX2 13 "HostKeyring$Pattern" "places" "I", Cond.fieldLink RX2 7 "HostKeyring$Pattern" "name" "I", Cond.static yX4_isSameAt, Cond.code yX4_isSameAt cX4_isSameAt 7 (some .boolean), Cond.methodLink RL 81 yX4_linesOf, Cond.instanceMethod yX4_linesOf, Cond.selects RX4 yX4_linesOf yX4_linesOf, Cond.code yX4_linesOf cX4_linesOf 5 (some .long), Cond.methodLink RL 85 yX4_addPattern, Cond.instanceMethod yX4_addPattern, Cond.selects RX4 yX4_addPattern yX4_addPattern, Cond.code yX4_addPattern cX4_addPattern 7 (some .int), Cond.methodLink RX4 58 yX1_takePattern, Cond.instanceMethod yX1_takePattern]
def wsL_step_r5 : List Cond := [Cond.selects RX1 yX1_takePattern yX1_takePattern, Cond.code yX1_takePattern cX1_takePattern 5 (some .int), Cond.classLink RX1 37 "java/lang/IllegalStateException", Cond.classLink RX1 9 RX2, Cond.instantiable RX2 4, Cond.methodLink RX1 44 yX2_init, Cond.instanceMethod yX2_init, Cond.code yX2_init cX2_init 5 none, Cond.methodLink RX2 1 objectInit, Cond.instanceMethod objectInit, Cond.code objectInit ⟨#[0xb1]⟩ 1 none, Cond.fieldLink RX2 19 "HostKeyring$Pattern" "isDenied" "Z", Cond.methodLink RL 20 yX4_lines, Cond.instanceMethod yX4_lines, Cond.selects RX4 yX4_lines yX4_lines, Cond.code yX4_lines cX4_lines 1 (some .int), Cond.methodLink RL 26 yX4_addHashed, Cond.instanceMethod yX4_addHashed, Cond.selects RX4 yX4_addHashed yX4_addHashed, Cond.code yX4_addHashed cX4_addHashed 6 (some .int), Cond.methodLink RX4 62 yX1_takeHash, Cond.instanceMethod yX1_takeHash, Cond.selects RX1 yX1_takeHash yX1_takeHash, Cond.code yX1_takeHash cX1_takeHash 4 none]
def wsL_step_r6 : List Cond := [Cond.methodLink RL 34 yX4_find, Cond.instanceMethod yX4_find, Cond.selects RX4 yX4_find yX4_find, Cond.code yX4_find cX4_find 4 (some .int), Cond.methodLink RL 41 yX4_remove, Cond.instanceMethod yX4_remove, Cond.selects RX4 yX4_remove yX4_remove, Cond.code yX4_remove cX4_remove 3 (some .int), Cond.methodLink RX4 68 yX4_takeOut, Cond.instanceMethod yX4_takeOut, Cond.selects RX4 yX4_takeOut yX4_takeOut, Cond.code yX4_takeOut cX4_takeOut 4 none, Cond.methodLink RL 44 yL_certificates, Cond.static yL_certificates, Cond.code yL_certificates cL_certificates 8 (some .boolean), Cond.methodLink RL 89 yX4_revokeSpan, Cond.instanceMethod yX4_revokeSpan, Cond.selects RX4 yX4_revokeSpan yX4_revokeSpan, Cond.code yX4_revokeSpan cX4_revokeSpan 4 (some .int), Cond.fieldLink RX4 84 "HostKeyring" "spanCount" "I", Cond.fieldLink RX4 23 "HostKeyring" "spans" "[LHostKeyring$Span;", Cond.classLink RX4 21 RX3, Cond.instantiable RX3 3, Cond.initialized RX3]
def wsL_step_r7 : List Cond := [Cond.methodLink RX4 89 yX3_init, Cond.instanceMethod yX3_init, Cond.code yX3_init cX3_init 4 none, Cond.methodLink RX3 1 objectInit, Cond.fieldLink RX3 7 "HostKeyring$Span" "authority" "I", Cond.fieldLink RX3 13 "HostKeyring$Span" "from" "I", Cond.fieldLink RX3 16 "HostKeyring$Span" "to" "I", Cond.methodLink RX4 91 yX4_countRevokedCertificates, Cond.instanceMethod yX4_countRevokedCertificates, Cond.selects RX4 yX4_countRevokedCertificates yX4_countRevokedCertificates, Cond.code yX4_countRevokedCertificates cX4_countRevokedCertificates 3 (some .int), Cond.fieldLink RX4 71 "HostKeyring" "certificateCount" "I", Cond.fieldLink RX4 17 "HostKeyring" "certificates" "[LHostKeyring$Certificate;", Cond.methodLink RX4 238 yX4_isInRevokedSpan, Cond.instanceMethod yX4_isInRevokedSpan, Cond.selects RX4 yX4_isInRevokedSpan yX4_isInRevokedSpan, Cond.code yX4_isInRevokedSpan cX4_isInRevokedSpan 3 (some .boolean), Cond.methodLink RX4 248 yX3_holds, Cond.instanceMethod yX3_holds, Cond.selects RX3 yX3_holds yX3_holds, Cond.code yX3_holds cX3_holds 3 (some .boolean), Cond.methodLink RL 93 yX4_certify, Cond.instanceMethod yX4_certify, Cond.selects RX4 yX4_certify yX4_certify]
def wsL_step_r8 : List Cond := [Cond.code yX4_certify cX4_certify 8 (some .int), Cond.classLink RX4 15 RX0, Cond.instantiable RX0 7, Cond.initialized RX0, Cond.methodLink RX4 81 yX0_init, Cond.instanceMethod yX0_init, Cond.code yX0_init cX0_init 8 none, Cond.methodLink RX0 1 objectInit, Cond.fieldLink RX0 7 "HostKeyring$Certificate" "authority" "I", Cond.fieldLink RX0 13 "HostKeyring$Certificate" "key" "I", Cond.fieldLink RX0 16 "HostKeyring$Certificate" "name" "I", Cond.fieldLink RX0 19 "HostKeyring$Certificate" "places" "I", Cond.fieldLink RX0 22 "HostKeyring$Certificate" "serial" "I", Cond.fieldLink RX0 25 "HostKeyring$Certificate" "first" "I", Cond.fieldLink RX0 28 "HostKeyring$Certificate" "last" "I", Cond.methodLink RL 48 yX4_setFirstSight, Cond.instanceMethod yX4_setFirstSight, Cond.selects RX4 yX4_setFirstSight yX4_setFirstSight, Cond.code yX4_setFirstSight cX4_setFirstSight 4 (some .int), Cond.fieldLink RX4 27 "HostKeyring" "firstSight" "I", Cond.fieldLink RX4 95 "HostKeyring" "isHashing" "Z", Cond.methodLink RL 52 yL_answers, Cond.static yL_answers, Cond.code yL_answers cL_answers 15 (some .boolean)]
def wsL_step_r9 : List Cond := [Cond.methodLink RL 97 yL_due, Cond.static yL_due, Cond.code yL_due cL_due 11 (some .int), Cond.methodLink RL 101 yX4_judge, Cond.instanceMethod yX4_judge, Cond.selects RX4 yX4_judge yX4_judge, Cond.code yX4_judge cX4_judge 6 (some .int), Cond.methodLink RX4 99 yX4_certificateAt, Cond.instanceMethod yX4_certificateAt, Cond.selects RX4 yX4_certificateAt yX4_certificateAt, Cond.code yX4_certificateAt cX4_certificateAt 2 (some (.object "HostKeyring$Certificate")), Cond.methodLink RX4 103 yX4_judgementOf, Cond.instanceMethod yX4_judgementOf, Cond.selects RX4 yX4_judgementOf yX4_judgementOf, Cond.code yX4_judgementOf cX4_judgementOf 6 (some .int), Cond.methodLink RX4 107 yX4_authorityOf, Cond.static yX4_authorityOf, Cond.code yX4_authorityOf cX4_authorityOf 1 (some .int), Cond.methodLink RX4 134 yX4_judgementByLines, Cond.instanceMethod yX4_judgementByLines, Cond.selects RX4 yX4_judgementByLines yX4_judgementByLines, Cond.code yX4_judgementByLines cX4_judgementByLines 7 (some .int), Cond.methodLink RX4 209 Lib.Math.min.name, Cond.static Lib.Math.min.name]
def wsL_step_r10 : List Cond := [Cond.initialized "java/lang/Math", Cond.code Lib.Math.min.name Lib.Math.min.code 2 (some .int), Cond.methodLink RX4 205 yX4_judgementByMatch, Cond.instanceMethod yX4_judgementByMatch, Cond.selects RX4 yX4_judgementByMatch yX4_judgementByMatch, Cond.code yX4_judgementByMatch cX4_judgementByMatch 4 (some .int), Cond.methodLink RX4 197 yX1_hasEither, Cond.instanceMethod yX1_hasEither, Cond.selects RX1 yX1_hasEither yX1_hasEither, Cond.code yX1_hasEither cX1_hasEither 3 (some .boolean), Cond.methodLink RX4 182 yX4_isLivePlain, Cond.instanceMethod yX4_isLivePlain, Cond.selects RX4 yX4_isLivePlain yX4_isLivePlain, Cond.code yX4_isLivePlain cX4_isLivePlain 2 (some .boolean), Cond.methodLink RX4 193 yX1_hasEnded, Cond.instanceMethod yX1_hasEnded, Cond.selects RX1 yX1_hasEnded yX1_hasEnded, Cond.code yX1_hasEnded cX1_hasEnded 2 (some .boolean), Cond.methodLink RX4 215 yX4_kindOf, Cond.static yX4_kindOf, Cond.code yX4_kindOf cX4_kindOf 1 (some .int), Cond.methodLink RX4 201 yX4_isGood, Cond.instanceMethod yX4_isGood, Cond.selects RX4 yX4_isGood yX4_isGood]
def wsL_step_r11 : List Cond := [Cond.code yX4_isGood cX4_isGood 4 (some .boolean), Cond.methodLink RX4 228 yX4_isSameAt, Cond.methodLink RX4 242 yX4_hasAuthority, Cond.instanceMethod yX4_hasAuthority, Cond.selects RX4 yX4_hasAuthority yX4_hasAuthority, Cond.code yX4_hasAuthority cX4_hasAuthority 6 (some .boolean), Cond.methodLink RL 105 yX4_judgeByReading, Cond.instanceMethod yX4_judgeByReading, Cond.selects RX4 yX4_judgeByReading yX4_judgeByReading, Cond.code yX4_judgeByReading cX4_judgeByReading 4 (some .int), Cond.methodLink RL 108 yX4_answer, Cond.instanceMethod yX4_answer, Cond.selects RX4 yX4_answer yX4_answer, Cond.code yX4_answer cX4_answer 7 (some .int), Cond.fieldLink RX4 31 "HostKeyring" "waitingKey" "I", Cond.methodLink RX4 111 yX4_seeToday, Cond.instanceMethod yX4_seeToday, Cond.selects RX4 yX4_seeToday yX4_seeToday, Cond.code yX4_seeToday cX4_seeToday 7 none, Cond.methodLink RX4 115 yX4_letWait, Cond.instanceMethod yX4_letWait, Cond.selects RX4 yX4_letWait yX4_letWait, Cond.code yX4_letWait cX4_letWait 4 none, Cond.fieldLink RX4 123 "HostKeyring" "waitingName" "I"]
def wsL_step_r12 : List Cond := [Cond.fieldLink RX4 126 "HostKeyring" "waitingPort" "I", Cond.methodLink RX4 118 yX4_appendSighted, Cond.instanceMethod yX4_appendSighted, Cond.selects RX4 yX4_appendSighted yX4_appendSighted, Cond.code yX4_appendSighted cX4_appendSighted 5 none, Cond.methodLink RL 111 yX4_waiting, Cond.instanceMethod yX4_waiting, Cond.selects RX4 yX4_waiting yX4_waiting, Cond.code yX4_waiting cX4_waiting 1 (some .int), Cond.methodLink RL 55 yL_turns, Cond.static yL_turns, Cond.code yL_turns cL_turns 11 (some .boolean), Cond.methodLink RL 114 yX4_turn, Cond.instanceMethod yX4_turn, Cond.selects RX4 yX4_turn yX4_turn, Cond.code yX4_turn cX4_turn 6 (some .int), Cond.methodLink RX4 142 yX4_turnLines, Cond.instanceMethod yX4_turnLines, Cond.selects RX4 yX4_turnLines yX4_turnLines, Cond.code yX4_turnLines cX4_turnLines 9 (some .int), Cond.methodLink RX4 186 yX1_takeMatching, Cond.instanceMethod yX1_takeMatching, Cond.selects RX1 yX1_takeMatching yX1_takeMatching, Cond.code yX1_takeMatching cX1_takeMatching 3 none]
def wsL_step_r13 : List Cond := [Cond.methodLink RX4 190 yX1_endBy, Cond.instanceMethod yX1_endBy, Cond.selects RX1 yX1_endBy yX1_endBy, Cond.code yX1_endBy cX1_endBy 2 none, Cond.methodLink RL 58 yX4_day, Cond.instanceMethod yX4_day, Cond.selects RX4 yX4_day yX4_day, Cond.code yX4_day cX4_day 1 (some .int), Cond.methodLink RL 61 yX4_pass, Cond.instanceMethod yX4_pass, Cond.selects RX4 yX4_pass yX4_pass, Cond.code yX4_pass cX4_pass 2 (some .int), Cond.methodLink RL 64 yL_confirms, Cond.static yL_confirms, Cond.code yL_confirms cL_confirms 3 (some .boolean), Cond.methodLink RL 117 yX4_confirm, Cond.instanceMethod yX4_confirm, Cond.selects RX4 yX4_confirm yX4_confirm, Cond.code yX4_confirm cX4_confirm 1 (some .int), Cond.methodLink RL 68 yL_cleans, Cond.static yL_cleans, Cond.code yL_cleans cL_cleans 6 (some .boolean), Cond.methodLink RL 120 yX4_clean, Cond.instanceMethod yX4_clean]
def wsL_step_r14 : List Cond := [Cond.selects RX4 yX4_clean yX4_clean, Cond.code yX4_clean cX4_clean 4 (some .int), Cond.methodLink RX4 151 yX4_isToBeCleaned, Cond.instanceMethod yX4_isToBeCleaned, Cond.selects RX4 yX4_isToBeCleaned yX4_isToBeCleaned, Cond.code yX4_isToBeCleaned cX4_isToBeCleaned 3 (some .boolean)]
def wsL_step : List Cond := .code yL_step cL_step 12 (some .boolean) :: ((wsL_step_r1 ++ (wsL_step_r2 ++ (wsL_step_r3 ++ (wsL_step_r4 ++ (wsL_step_r5 ++ (wsL_step_r6 ++ (wsL_step_r7 ++ (wsL_step_r8 ++ (wsL_step_r9 ++ (wsL_step_r10 ++ (wsL_step_r11 ++ (wsL_step_r12 ++ (wsL_step_r13 ++ wsL_step_r14))))))))))))) ++ wsX40 ++ wsX10 ++ wsX20 ++ wsX30 ++ wsX00 ++ (vx_atS RX4 133 "java/lang/IllegalArgumentException" ["java/lang/RuntimeException", "java/lang/Exception"]).filter goodWord ++ (vx_atS RX4 78 "java/lang/IllegalStateException" ["java/lang/RuntimeException", "java/lang/Exception"]).filter goodWord ++ (vx_atS RX4 174 "java/lang/IndexOutOfBoundsException" ["java/lang/RuntimeException", "java/lang/Exception"]).filter goodWord ++ (vx_atS RX1 41 "java/lang/IllegalStateException" ["java/lang/RuntimeException", "java/lang/Exception"]).filter goodWord)
def wsL_isBook_r1 : List Cond := [Cond.methodLink RL 10 yL_name, Cond.static yL_name, Cond.initialized RL, Cond.code yL_name cL_name 1 (some .int), Cond.methodLink RL 20 yX4_lines, Cond.instanceMethod yX4_lines, Cond.selects RX4 yX4_lines yX4_lines, Cond.initialized RX4, Cond.code yX4_lines cX4_lines 1 (some .int), Cond.fieldLink RX4 47 "HostKeyring" "lineCount" "I", Cond.methodLink RL 58 yX4_day, Cond.instanceMethod yX4_day, Cond.selects RX4 yX4_day yX4_day, Cond.code yX4_day cX4_day 1 (some .int), Cond.fieldLink RX4 146 "HostKeyring" "day" "I", Cond.methodLink RL 111 yX4_waiting, Cond.instanceMethod yX4_waiting, Cond.selects RX4 yX4_waiting yX4_waiting, Cond.code yX4_waiting cX4_waiting 1 (some .int), Cond.fieldLink RX4 31 "HostKeyring" "waitingKey" "I", Cond.methodLink RL 30 yX4_matches, Cond.instanceMethod yX4_matches, Cond.selects RX4 yX4_matches yX4_matches, Cond.code yX4_matches cX4_matches 5 (some .boolean)]
def wsL_isBook_r2 : List Cond := [Cond.methodLink RX4 50 yX4_lineAt, Cond.instanceMethod yX4_lineAt, Cond.selects RX4 yX4_lineAt yX4_lineAt, Cond.code yX4_lineAt cX4_lineAt 2 (some (.object "HostKeyring$Line")), Cond.classLink RX4 170 "java/lang/IndexOutOfBoundsException", Cond.initialized "java/lang/IndexOutOfBoundsException", Cond.fieldLink RX4 11 "HostKeyring" "book" "[LHostKeyring$Line;", Cond.methodLink RX4 54 yX4_requireNameAndPort, Cond.static yX4_requireNameAndPort, Cond.code yX4_requireNameAndPort cX4_requireNameAndPort 2 none, Cond.methodLink RX4 35 yX4_requireWithin, Cond.static yX4_requireWithin, Cond.code yX4_requireWithin cX4_requireWithin 3 none, Cond.classLink RX4 129 "java/lang/IllegalArgumentException", Cond.initialized "java/lang/IllegalArgumentException", Cond.methodLink RX4 164 yX1_covers, Cond.instanceMethod yX1_covers, Cond.selects RX1 yX1_covers yX1_covers, Cond.initialized RX1, Cond.code yX1_covers cX1_covers 6 (some .boolean), Cond.fieldLink RX1 33 "HostKeyring$Line" "isHashed" "Z", Cond.fieldLink RX1 57 "HostKeyring$Line" "hashPort" "I", Cond.fieldLink RX1 54 "HostKeyring$Line" "hashSalt" "I", Cond.fieldLink RX1 51 "HostKeyring$Line" "hash" "I"]
def wsL_isBook_r3 : List Cond := [Cond.fieldLink RX1 30 "HostKeyring$Line" "patternCount" "I", Cond.fieldLink RX1 11 "HostKeyring$Line" "patterns" "[LHostKeyring$Pattern;", Cond.methodLink RX1 47 yX1_hashOf, Cond.static yX1_hashOf, Cond.code yX1_hashOf cX1_hashOf 2 (some .int), Cond.methodLink RX1 60 yX2_fits, Cond.instanceMethod yX2_fits, Cond.selects RX2 yX2_fits yX2_fits, Cond.initialized RX2, Cond.code yX2_fits cX2_fits 3 (some .boolean), Cond.fieldLink RX2 16 "HostKeyring$Pattern" "port" "I", Cond.fieldLink RX2 13 "HostKeyring$Pattern" "places" "I", Cond.fieldLink RX2 7 "HostKeyring$Pattern" "name" "I", Cond.static yX4_isSameAt, Cond.code yX4_isSameAt cX4_isSameAt 7 (some .boolean), Cond.methodLink RL 38 yX4_keyOf, Cond.instanceMethod yX4_keyOf, Cond.selects RX4 yX4_keyOf yX4_keyOf, Cond.code yX4_keyOf cX4_keyOf 3 (some .int), Cond.methodLink RL 75 yX4_seen, Cond.instanceMethod yX4_seen, Cond.selects RX4 yX4_seen yX4_seen, Cond.code yX4_seen cX4_seen 2 (some .int), Cond.methodLink RL 78 yX4_end]
def wsL_isBook_r4 : List Cond := [Cond.instanceMethod yX4_end, Cond.selects RX4 yX4_end yX4_end, Cond.code yX4_end cX4_end 2 (some .int), Cond.methodLink RL 34 yX4_find, Cond.instanceMethod yX4_find, Cond.selects RX4 yX4_find yX4_find, Cond.code yX4_find cX4_find 4 (some .int), Cond.methodLink RL 81 yX4_linesOf, Cond.instanceMethod yX4_linesOf, Cond.selects RX4 yX4_linesOf yX4_linesOf, Cond.code yX4_linesOf cX4_linesOf 5 (some .long), Cond.methodLink RX4 39 yX4_requireKey, Cond.static yX4_requireKey, Cond.code yX4_requireKey cX4_requireKey 1 none, Cond.methodLink RL 105 yX4_judgeByReading, Cond.instanceMethod yX4_judgeByReading, Cond.selects RX4 yX4_judgeByReading yX4_judgeByReading, Cond.code yX4_judgeByReading cX4_judgeByReading 4 (some .int), Cond.methodLink RX4 134 yX4_judgementByLines, Cond.instanceMethod yX4_judgementByLines, Cond.selects RX4 yX4_judgementByLines yX4_judgementByLines, Cond.code yX4_judgementByLines cX4_judgementByLines 7 (some .int), Cond.methodLink RX4 209 Lib.Math.min.name, Cond.static Lib.Math.min.name]
def wsL_isBook_r5 : List Cond := [Cond.initialized "java/lang/Math", Cond.code Lib.Math.min.name Lib.Math.min.code 2 (some .int), Cond.methodLink RX4 205 yX4_judgementByMatch, Cond.instanceMethod yX4_judgementByMatch, Cond.selects RX4 yX4_judgementByMatch yX4_judgementByMatch, Cond.code yX4_judgementByMatch cX4_judgementByMatch 4 (some .int), Cond.methodLink RX4 197 yX1_hasEither, Cond.instanceMethod yX1_hasEither, Cond.selects RX1 yX1_hasEither yX1_hasEither, Cond.code yX1_hasEither cX1_hasEither 3 (some .boolean), Cond.fieldLink RX1 21 "HostKeyring$Line" "key" "I", Cond.methodLink RX4 182 yX4_isLivePlain, Cond.instanceMethod yX4_isLivePlain, Cond.selects RX4 yX4_isLivePlain yX4_isLivePlain, Cond.code yX4_isLivePlain cX4_isLivePlain 2 (some .boolean), Cond.methodLink RX4 193 yX1_hasEnded, Cond.instanceMethod yX1_hasEnded, Cond.selects RX1 yX1_hasEnded yX1_hasEnded, Cond.code yX1_hasEnded cX1_hasEnded 2 (some .boolean), Cond.fieldLink RX1 27 "HostKeyring$Line" "end" "I", Cond.methodLink RX4 215 yX4_kindOf, Cond.static yX4_kindOf, Cond.code yX4_kindOf cX4_kindOf 1 (some .int), Cond.methodLink RL 97 yL_due]
def wsL_isBook_r6 : List Cond := [Cond.static yL_due, Cond.code yL_due cL_due 11 (some .int)]
def wsL_isBook : List Cond := .code yL_isBook cL_isBook 12 (some .boolean) :: ((wsL_isBook_r1 ++ (wsL_isBook_r2 ++ (wsL_isBook_r3 ++ (wsL_isBook_r4 ++ (wsL_isBook_r5 ++ wsL_isBook_r6))))) ++ wsX40 ++ wsX10 ++ wsX20 ++ (vx_atS RX4 174 "java/lang/IndexOutOfBoundsException" ["java/lang/RuntimeException", "java/lang/Exception"]).filter goodWord ++ (vx_atS RX4 133 "java/lang/IllegalArgumentException" ["java/lang/RuntimeException", "java/lang/Exception"]).filter goodWord)
def wsL_law0_r1 : List Cond := [Cond.classLink RL 21 RX4, Cond.instantiable RX4 12, Cond.initialized RX4, Cond.arrayClass .int, Cond.methodLink RL 123 yX4_init, Cond.instanceMethod yX4_init, Cond.code yX4_init cX4_init 2 none, Cond.methodLink RX4 1 objectInit, Cond.instanceMethod objectInit, Cond.code objectInit ⟨#[0xb1]⟩ 1 none, Cond.classLink RX4 9 RX1, Cond.fieldLink RX4 11 "HostKeyring" "book" "[LHostKeyring$Line;", Cond.classLink RX4 15 RX0, Cond.fieldLink RX4 17 "HostKeyring" "certificates" "[LHostKeyring$Certificate;", Cond.classLink RX4 21 RX3, Cond.fieldLink RX4 23 "HostKeyring" "spans" "[LHostKeyring$Span;", Cond.fieldLink RX4 27 "HostKeyring" "firstSight" "I", Cond.fieldLink RX4 31 "HostKeyring" "waitingKey" "I", Cond.instantiable RX1 10, Cond.initialized RX1, Cond.instanceMethod yX1_init, Cond.code yX1_init cX1_init 1 none, Cond.methodLink RX1 3 objectInit, Cond.classLink RX1 9 RX2]
def wsL_law0_r2 : List Cond := [Cond.fieldLink RX1 11 "HostKeyring$Line" "patterns" "[LHostKeyring$Pattern;", Cond.methodLink RL 20 yX4_lines, Cond.instanceMethod yX4_lines, Cond.selects RX4 yX4_lines yX4_lines, Cond.code yX4_lines cX4_lines 1 (some .int), Cond.fieldLink RX4 47 "HostKeyring" "lineCount" "I", Cond.methodLink RL 58 yX4_day, Cond.instanceMethod yX4_day, Cond.selects RX4 yX4_day yX4_day, Cond.code yX4_day cX4_day 1 (some .int), Cond.fieldLink RX4 146 "HostKeyring" "day" "I", Cond.methodLink RL 111 yX4_waiting, Cond.instanceMethod yX4_waiting, Cond.selects RX4 yX4_waiting yX4_waiting, Cond.code yX4_waiting cX4_waiting 1 (some .int), Cond.methodLink RL 34 yX4_find, Cond.instanceMethod yX4_find, Cond.selects RX4 yX4_find yX4_find, Cond.code yX4_find cX4_find 4 (some .int), Cond.methodLink RX4 54 yX4_requireNameAndPort, Cond.static yX4_requireNameAndPort, Cond.code yX4_requireNameAndPort cX4_requireNameAndPort 2 none, Cond.methodLink RX4 35 yX4_requireWithin, Cond.static yX4_requireWithin]
def wsL_law0_r3 : List Cond := [Cond.code yX4_requireWithin cX4_requireWithin 3 none, Cond.classLink RX4 129 "java/lang/IllegalArgumentException", Cond.initialized "java/lang/IllegalArgumentException", Cond.methodLink RX4 164 yX1_covers, Cond.instanceMethod yX1_covers, Cond.selects RX1 yX1_covers yX1_covers, Cond.code yX1_covers cX1_covers 6 (some .boolean), Cond.fieldLink RX1 33 "HostKeyring$Line" "isHashed" "Z", Cond.fieldLink RX1 57 "HostKeyring$Line" "hashPort" "I", Cond.fieldLink RX1 54 "HostKeyring$Line" "hashSalt" "I", Cond.fieldLink RX1 51 "HostKeyring$Line" "hash" "I", Cond.fieldLink RX1 30 "HostKeyring$Line" "patternCount" "I", Cond.methodLink RX1 47 yX1_hashOf, Cond.static yX1_hashOf, Cond.code yX1_hashOf cX1_hashOf 2 (some .int), Cond.methodLink RX1 60 yX2_fits, Cond.instanceMethod yX2_fits, Cond.selects RX2 yX2_fits yX2_fits, Cond.initialized RX2, Cond.code yX2_fits cX2_fits 3 (some .boolean), Cond.fieldLink RX2 16 "HostKeyring$Pattern" "port" "I", Cond.fieldLink RX2 13 "HostKeyring$Pattern" "places" "I", Cond.fieldLink RX2 7 "HostKeyring$Pattern" "name" "I", Cond.static yX4_isSameAt]
def wsL_law0_r4 : List Cond := [Cond.code yX4_isSameAt cX4_isSameAt 7 (some .boolean), Cond.methodLink RL 124 yL_draw, Cond.static yL_draw, Cond.initialized RL, Cond.code yL_draw cL_draw 2 (some .int), Cond.constant RL 7 (2147483647), Cond.constant RL 8 (104729), Cond.constant RL 9 (65521), Cond.methodLink RL 128 yL_step, Cond.static yL_step, Cond.code yL_step cL_step 12 (some .boolean), Cond.methodLink RL 10 yL_name, Cond.static yL_name, Cond.code yL_name cL_name 1 (some .int), Cond.methodLink RL 16 yL_adds, Cond.static yL_adds, Cond.code yL_adds cL_adds 13 (some .boolean), Cond.methodLink RL 72 yX4_addLine, Cond.instanceMethod yX4_addLine, Cond.selects RX4 yX4_addLine yX4_addLine, Cond.code yX4_addLine cX4_addLine 3 (some .int), Cond.methodLink RX4 39 yX4_requireKey, Cond.static yX4_requireKey, Cond.code yX4_requireKey cX4_requireKey 1 none]
def wsL_law0_r5 : List Cond := [Cond.methodLink RX4 43 yX4_appendLine, Cond.instanceMethod yX4_appendLine, Cond.selects RX4 yX4_appendLine yX4_appendLine, Cond.code yX4_appendLine cX4_appendLine 4 (some (.object "HostKeyring$Line")), Cond.classLink RX4 74 "java/lang/IllegalStateException", Cond.initialized "java/lang/IllegalStateException", Cond.methodLink RX4 179 yX1_begin, Cond.instanceMethod yX1_begin, Cond.selects RX1 yX1_begin yX1_begin, Cond.code yX1_begin cX1_begin 4 none, Cond.fieldLink RX1 17 "HostKeyring$Line" "mark" "I", Cond.fieldLink RX1 21 "HostKeyring$Line" "key" "I", Cond.fieldLink RX1 24 "HostKeyring$Line" "seen" "I", Cond.fieldLink RX1 27 "HostKeyring$Line" "end" "I", Cond.methodLink RL 38 yX4_keyOf, Cond.instanceMethod yX4_keyOf, Cond.selects RX4 yX4_keyOf yX4_keyOf, Cond.code yX4_keyOf cX4_keyOf 3 (some .int), Cond.methodLink RX4 50 yX4_lineAt, Cond.instanceMethod yX4_lineAt, Cond.selects RX4 yX4_lineAt yX4_lineAt, Cond.code yX4_lineAt cX4_lineAt 2 (some (.object "HostKeyring$Line")), Cond.classLink RX4 170 "java/lang/IndexOutOfBoundsException", Cond.initialized "java/lang/IndexOutOfBoundsException"]
def wsL_law0_r6 : List Cond := [Cond.methodLink RL 75 yX4_seen, Cond.instanceMethod yX4_seen, Cond.selects RX4 yX4_seen yX4_seen, Cond.code yX4_seen cX4_seen 2 (some .int), Cond.methodLink RL 78 yX4_end, Cond.instanceMethod yX4_end, Cond.selects RX4 yX4_end yX4_end, Cond.code yX4_end cX4_end 2 (some .int), Cond.methodLink RL 30 yX4_matches, Cond.instanceMethod yX4_matches, Cond.selects RX4 yX4_matches yX4_matches, Cond.code yX4_matches cX4_matches 5 (some .boolean), Cond.methodLink RL 81 yX4_linesOf, Cond.instanceMethod yX4_linesOf, Cond.selects RX4 yX4_linesOf yX4_linesOf, Cond.code yX4_linesOf cX4_linesOf 5 (some .long), Cond.methodLink RL 85 yX4_addPattern, Cond.instanceMethod yX4_addPattern, Cond.selects RX4 yX4_addPattern yX4_addPattern, Cond.code yX4_addPattern cX4_addPattern 7 (some .int), Cond.methodLink RX4 58 yX1_takePattern, Cond.instanceMethod yX1_takePattern, Cond.selects RX1 yX1_takePattern yX1_takePattern, Cond.code yX1_takePattern cX1_takePattern 5 (some .int)]
def wsL_law0_r7 : List Cond := [Cond.classLink RX1 37 "java/lang/IllegalStateException", Cond.instantiable RX2 4, Cond.methodLink RX1 44 yX2_init, Cond.instanceMethod yX2_init, Cond.code yX2_init cX2_init 5 none, Cond.methodLink RX2 1 objectInit, Cond.fieldLink RX2 19 "HostKeyring$Pattern" "isDenied" "Z", Cond.methodLink RL 26 yX4_addHashed, Cond.instanceMethod yX4_addHashed, Cond.selects RX4 yX4_addHashed yX4_addHashed, Cond.code yX4_addHashed cX4_addHashed 6 (some .int), Cond.methodLink RX4 62 yX1_takeHash, Cond.instanceMethod yX1_takeHash, Cond.selects RX1 yX1_takeHash yX1_takeHash, Cond.code yX1_takeHash cX1_takeHash 4 none, Cond.methodLink RL 41 yX4_remove, Cond.instanceMethod yX4_remove, Cond.selects RX4 yX4_remove yX4_remove, Cond.code yX4_remove cX4_remove 3 (some .int), Cond.methodLink RX4 68 yX4_takeOut, Cond.instanceMethod yX4_takeOut, Cond.selects RX4 yX4_takeOut yX4_takeOut, Cond.code yX4_takeOut cX4_takeOut 4 none, Cond.methodLink RL 44 yL_certificates]
def wsL_law0_r8 : List Cond := [Cond.static yL_certificates, Cond.code yL_certificates cL_certificates 8 (some .boolean), Cond.methodLink RL 89 yX4_revokeSpan, Cond.instanceMethod yX4_revokeSpan, Cond.selects RX4 yX4_revokeSpan yX4_revokeSpan, Cond.code yX4_revokeSpan cX4_revokeSpan 4 (some .int), Cond.fieldLink RX4 84 "HostKeyring" "spanCount" "I", Cond.instantiable RX3 3, Cond.initialized RX3, Cond.methodLink RX4 89 yX3_init, Cond.instanceMethod yX3_init, Cond.code yX3_init cX3_init 4 none, Cond.methodLink RX3 1 objectInit, Cond.fieldLink RX3 7 "HostKeyring$Span" "authority" "I", Cond.fieldLink RX3 13 "HostKeyring$Span" "from" "I", Cond.fieldLink RX3 16 "HostKeyring$Span" "to" "I", Cond.methodLink RX4 91 yX4_countRevokedCertificates, Cond.instanceMethod yX4_countRevokedCertificates, Cond.selects RX4 yX4_countRevokedCertificates yX4_countRevokedCertificates, Cond.code yX4_countRevokedCertificates cX4_countRevokedCertificates 3 (some .int), Cond.fieldLink RX4 71 "HostKeyring" "certificateCount" "I", Cond.methodLink RX4 238 yX4_isInRevokedSpan, Cond.instanceMethod yX4_isInRevokedSpan, Cond.selects RX4 yX4_isInRevokedSpan yX4_isInRevokedSpan]
def wsL_law0_r9 : List Cond := [Cond.code yX4_isInRevokedSpan cX4_isInRevokedSpan 3 (some .boolean), Cond.methodLink RX4 248 yX3_holds, Cond.instanceMethod yX3_holds, Cond.selects RX3 yX3_holds yX3_holds, Cond.code yX3_holds cX3_holds 3 (some .boolean), Cond.methodLink RL 93 yX4_certify, Cond.instanceMethod yX4_certify, Cond.selects RX4 yX4_certify yX4_certify, Cond.code yX4_certify cX4_certify 8 (some .int), Cond.instantiable RX0 7, Cond.initialized RX0, Cond.methodLink RX4 81 yX0_init, Cond.instanceMethod yX0_init, Cond.code yX0_init cX0_init 8 none, Cond.methodLink RX0 1 objectInit, Cond.fieldLink RX0 7 "HostKeyring$Certificate" "authority" "I", Cond.fieldLink RX0 13 "HostKeyring$Certificate" "key" "I", Cond.fieldLink RX0 16 "HostKeyring$Certificate" "name" "I", Cond.fieldLink RX0 19 "HostKeyring$Certificate" "places" "I", Cond.fieldLink RX0 22 "HostKeyring$Certificate" "serial" "I", Cond.fieldLink RX0 25 "HostKeyring$Certificate" "first" "I", Cond.fieldLink RX0 28 "HostKeyring$Certificate" "last" "I", Cond.methodLink RL 48 yX4_setFirstSight, Cond.instanceMethod yX4_setFirstSight]
def wsL_law0_r10 : List Cond := [Cond.selects RX4 yX4_setFirstSight yX4_setFirstSight, Cond.code yX4_setFirstSight cX4_setFirstSight 4 (some .int), Cond.fieldLink RX4 95 "HostKeyring" "isHashing" "Z", Cond.methodLink RL 52 yL_answers, Cond.static yL_answers, Cond.code yL_answers cL_answers 15 (some .boolean), Cond.methodLink RL 97 yL_due, Cond.static yL_due, Cond.code yL_due cL_due 11 (some .int), Cond.methodLink RL 101 yX4_judge, Cond.instanceMethod yX4_judge, Cond.selects RX4 yX4_judge yX4_judge, Cond.code yX4_judge cX4_judge 6 (some .int), Cond.methodLink RX4 99 yX4_certificateAt, Cond.instanceMethod yX4_certificateAt, Cond.selects RX4 yX4_certificateAt yX4_certificateAt, Cond.code yX4_certificateAt cX4_certificateAt 2 (some (.object "HostKeyring$Certificate")), Cond.methodLink RX4 103 yX4_judgementOf, Cond.instanceMethod yX4_judgementOf, Cond.selects RX4 yX4_judgementOf yX4_judgementOf, Cond.code yX4_judgementOf cX4_judgementOf 6 (some .int), Cond.methodLink RX4 107 yX4_authorityOf, Cond.static yX4_authorityOf, Cond.code yX4_authorityOf cX4_authorityOf 1 (some .int)]
def wsL_law0_r11 : List Cond := [Cond.methodLink RX4 134 yX4_judgementByLines, Cond.instanceMethod yX4_judgementByLines, Cond.selects RX4 yX4_judgementByLines yX4_judgementByLines, Cond.code yX4_judgementByLines cX4_judgementByLines 7 (some .int), Cond.methodLink RX4 209 Lib.Math.min.name, Cond.static Lib.Math.min.name, Cond.initialized "java/lang/Math", Cond.code Lib.Math.min.name Lib.Math.min.code 2 (some .int), Cond.methodLink RX4 205 yX4_judgementByMatch, Cond.instanceMethod yX4_judgementByMatch, Cond.selects RX4 yX4_judgementByMatch yX4_judgementByMatch, Cond.code yX4_judgementByMatch cX4_judgementByMatch 4 (some .int), Cond.methodLink RX4 197 yX1_hasEither, Cond.instanceMethod yX1_hasEither, Cond.selects RX1 yX1_hasEither yX1_hasEither, Cond.code yX1_hasEither cX1_hasEither 3 (some .boolean), Cond.methodLink RX4 182 yX4_isLivePlain, Cond.instanceMethod yX4_isLivePlain, Cond.selects RX4 yX4_isLivePlain yX4_isLivePlain, Cond.code yX4_isLivePlain cX4_isLivePlain 2 (some .boolean), Cond.methodLink RX4 193 yX1_hasEnded, Cond.instanceMethod yX1_hasEnded, Cond.selects RX1 yX1_hasEnded yX1_hasEnded, Cond.code yX1_hasEnded cX1_hasEnded 2 (some .boolean)]
def wsL_law0_r12 : List Cond := [Cond.methodLink RX4 215 yX4_kindOf, Cond.static yX4_kindOf, Cond.code yX4_kindOf cX4_kindOf 1 (some .int), Cond.methodLink RX4 201 yX4_isGood, Cond.instanceMethod yX4_isGood, Cond.selects RX4 yX4_isGood yX4_isGood, Cond.code yX4_isGood cX4_isGood 4 (some .boolean), Cond.methodLink RX4 228 yX4_isSameAt, Cond.methodLink RX4 242 yX4_hasAuthority, Cond.instanceMethod yX4_hasAuthority, Cond.selects RX4 yX4_hasAuthority yX4_hasAuthority, Cond.code yX4_hasAuthority cX4_hasAuthority 6 (some .boolean), Cond.methodLink RL 105 yX4_judgeByReading, Cond.instanceMethod yX4_judgeByReading, Cond.selects RX4 yX4_judgeByReading yX4_judgeByReading, Cond.code yX4_judgeByReading cX4_judgeByReading 4 (some .int), Cond.methodLink RL 108 yX4_answer, Cond.instanceMethod yX4_answer, Cond.selects RX4 yX4_answer yX4_answer, Cond.code yX4_answer cX4_answer 7 (some .int), Cond.methodLink RX4 111 yX4_seeToday, Cond.instanceMethod yX4_seeToday, Cond.selects RX4 yX4_seeToday yX4_seeToday, Cond.code yX4_seeToday cX4_seeToday 7 none]
def wsL_law0_r13 : List Cond := [Cond.methodLink RX4 115 yX4_letWait, Cond.instanceMethod yX4_letWait, Cond.selects RX4 yX4_letWait yX4_letWait, Cond.code yX4_letWait cX4_letWait 4 none, Cond.fieldLink RX4 123 "HostKeyring" "waitingName" "I", Cond.fieldLink RX4 126 "HostKeyring" "waitingPort" "I", Cond.methodLink RX4 118 yX4_appendSighted, Cond.instanceMethod yX4_appendSighted, Cond.selects RX4 yX4_appendSighted yX4_appendSighted, Cond.code yX4_appendSighted cX4_appendSighted 5 none, Cond.methodLink RL 55 yL_turns, Cond.static yL_turns, Cond.code yL_turns cL_turns 11 (some .boolean), Cond.methodLink RL 114 yX4_turn, Cond.instanceMethod yX4_turn, Cond.selects RX4 yX4_turn yX4_turn, Cond.code yX4_turn cX4_turn 6 (some .int), Cond.methodLink RX4 142 yX4_turnLines, Cond.instanceMethod yX4_turnLines, Cond.selects RX4 yX4_turnLines yX4_turnLines, Cond.code yX4_turnLines cX4_turnLines 9 (some .int), Cond.methodLink RX4 186 yX1_takeMatching, Cond.instanceMethod yX1_takeMatching, Cond.selects RX1 yX1_takeMatching yX1_takeMatching]
def wsL_law0_r14 : List Cond := [Cond.code yX1_takeMatching cX1_takeMatching 3 none, Cond.methodLink RX4 190 yX1_endBy, Cond.instanceMethod yX1_endBy, Cond.selects RX1 yX1_endBy yX1_endBy, Cond.code yX1_endBy cX1_endBy 2 none, Cond.methodLink RL 61 yX4_pass, Cond.instanceMethod yX4_pass, Cond.selects RX4 yX4_pass yX4_pass, Cond.code yX4_pass cX4_pass 2 (some .int), Cond.methodLink RL 64 yL_confirms, Cond.static yL_confirms, Cond.code yL_confirms cL_confirms 3 (some .boolean), Cond.methodLink RL 117 yX4_confirm, Cond.instanceMethod yX4_confirm, Cond.selects RX4 yX4_confirm yX4_confirm, Cond.code yX4_confirm cX4_confirm 1 (some .int), Cond.methodLink RL 68 yL_cleans, Cond.static yL_cleans, Cond.code yL_cleans cL_cleans 6 (some .boolean), Cond.methodLink RL 120 yX4_clean, Cond.instanceMethod yX4_clean, Cond.selects RX4 yX4_clean yX4_clean, Cond.code yX4_clean cX4_clean 4 (some .int), Cond.methodLink RX4 151 yX4_isToBeCleaned]
def wsL_law0_r15 : List Cond := [Cond.instanceMethod yX4_isToBeCleaned, Cond.selects RX4 yX4_isToBeCleaned yX4_isToBeCleaned, Cond.code yX4_isToBeCleaned cX4_isToBeCleaned 3 (some .boolean), Cond.methodLink RL 132 yL_isBook, Cond.static yL_isBook, Cond.code yL_isBook cL_isBook 12 (some .boolean)]
def wsL_law0 : List Cond := (wsL_law0_r1 ++ (wsL_law0_r2 ++ (wsL_law0_r3 ++ (wsL_law0_r4 ++ (wsL_law0_r5 ++ (wsL_law0_r6 ++ (wsL_law0_r7 ++ (wsL_law0_r8 ++ (wsL_law0_r9 ++ (wsL_law0_r10 ++ (wsL_law0_r11 ++ (wsL_law0_r12 ++ (wsL_law0_r13 ++ (wsL_law0_r14 ++ wsL_law0_r15)))))))))))))) ++ wsX40 ++ wsX10 ++ wsX20 ++ wsX30 ++ wsX00 ++ ([] : List Cond)
def wsL_law : List Cond := wsL_law0 ++ (vx_atS RX4 133 "java/lang/IllegalArgumentException" ["java/lang/RuntimeException", "java/lang/Exception"]).filter goodWord ++ (vx_atS RX4 78 "java/lang/IllegalStateException" ["java/lang/RuntimeException", "java/lang/Exception"]).filter goodWord ++ (vx_atS RX4 174 "java/lang/IndexOutOfBoundsException" ["java/lang/RuntimeException", "java/lang/Exception"]).filter goodWord ++ (vx_atS RX1 41 "java/lang/IllegalStateException" ["java/lang/RuntimeException", "java/lang/Exception"]).filter goodWord
theorem inlX0 : ∀ w ∈ wsX00, w ∈ wsL_law := fun _ h => List.mem_append_left _ (List.mem_append_left _ (List.mem_append_left _ (List.mem_append_left _ (List.mem_append_left _ (List.mem_append_right _ h)))))
theorem inlX1 : ∀ w ∈ wsX10, w ∈ wsL_law := fun _ h => List.mem_append_left _ (List.mem_append_left _ (List.mem_append_left _ (List.mem_append_left _ (List.mem_append_left _ (List.mem_append_left _ (List.mem_append_left _ (List.mem_append_left _ (List.mem_append_right _ h))))))))
theorem inlX2 : ∀ w ∈ wsX20, w ∈ wsL_law := fun _ h => List.mem_append_left _ (List.mem_append_left _ (List.mem_append_left _ (List.mem_append_left _ (List.mem_append_left _ (List.mem_append_left _ (List.mem_append_left _ (List.mem_append_right _ h)))))))
theorem inlX3 : ∀ w ∈ wsX30, w ∈ wsL_law := fun _ h => List.mem_append_left _ (List.mem_append_left _ (List.mem_append_left _ (List.mem_append_left _ (List.mem_append_left _ (List.mem_append_left _ (List.mem_append_right _ h))))))
theorem inlX4 : ∀ w ∈ wsX40, w ∈ wsL_law := fun _ h => List.mem_append_left _ (List.mem_append_left _ (List.mem_append_left _ (List.mem_append_left _ (List.mem_append_left _ (List.mem_append_left _ (List.mem_append_left _ (List.mem_append_left _ (List.mem_append_left _ (List.mem_append_right _ h)))))))))
abbrev vwCl : List vw_C := [(RX0, TX0, 7), (RX1, TX1, 10), (RX2, TX2, 4), (RX3, TX3, 3), (RX4, TX4, 12)]
