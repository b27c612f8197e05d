/-! THE LAW'S CELL FOR AN ANSWER: one long, beside the pool -/
def oX (g : hG) (X0 : va_W) (o : Nat) (f : Nat → Int64) : va_W := X0 ++ [(o, .inl (g.2.1 6, 1, .inr (.inl f)))]
theorem oX_get {g : hG} {X0 : va_W} {o : Nat} {f : Nat → Int64} {S : hS} : (hws g (oX g X0 o f) S)[X0.length]? = some (o, .inl (g.2.1 6, 1, .inr (.inl f))) := by
  unfold hws oX
  rw [List.append_assoc, List.getElem?_append_right (Nat.le_refl _), Nat.sub_self]
  rfl
theorem oX_set {g : hG} {X0 : va_W} {o : Nat} {f f' : Nat → Int64} {S : hS} : (hws g (oX g X0 o f) S).set X0.length (o, .inl (g.2.1 6, 1, .inr (.inl f'))) = hws g (oX g X0 o f') S := by
  unfold hws oX
  rw [List.append_assoc, List.append_assoc, List.set_append_right _ _ (Nat.le_refl _), Nat.sub_self]
  rfl
def hQo (g : hG) (X0 : va_W) (o : Nat) (post : Int32 → Int64 → hS → Prop) : Array Value → State → Outcome → State → Prop := fun _ st oc t => (∃ (r : Int32) (f : Nat → Int64) (S' : hS), oc = .returned (some (.int r)) ∧ post r (f 0) S' ∧ hw g (oX g X0 o f) S' t.heap) ∧ va_F (hA g) st t
def hMetO (l : Launch) (y : MethodName) (ws : List Cond) (rm : Room) (g : hG) (X0 : va_W) (o : Nat) (f : Nat → Int64) (S : hS) (av : List Value) (post : Int32 → Int64 → hS → Prop) : Prop := vx_Met l y ws rm (hPre g (oX g X0 o f) S av) (hQo g X0 o post) (hXC g X0 (fun _ _ => False)) rm.cells rm.slots (hA g)
section HOut
variable {p : Program} {l : Launch} {e : Env} {R : Room} {s : State} {m : MethodId} {args : Array Value} {below : List Frame} {meth : Method} {c : Code} {nL : Nat} {g : hG} {X0 : va_W} {o : Nat} {f : Nat → Int64} {Q : State → Prop} {S : hS} {cells slots : Nat} {lv : List (Nat × Value)} {pc : Nat} {st rest : List Value} {cc : ByteArray} {Ts : List Cond} {own : String}
theorem q_lald (F : hF p l s m args meth c cc nL Ts own g) (d : decode cc pc = .ok (.laload, 1))
    (kk : V p l e R s m args below meth c nL g (oX g X0 o f) Q S cells slots lv (pc + 1) (.long (f 0) :: st)) : V p l e R s m args below meth c nL g (oX g X0 o f) Q S cells slots lv pc (.int 0 :: .ref o :: st) := by
  intro H locs ls hw0 hS0 hl
  exact va_lald F.1.1 F.1.2.1 F.2.1.1 hw0.1 X0.length 6 oX_get rfl (h_idx (j := 0) (i := 0) rfl (by decide) (by decide)).1 d (kk H locs ls hw0 hS0 hl)
theorem q_last (F : hF p l s m args meth c cc nL Ts own g) {w : Int64} (d : decode cc pc = .ok (.lastore, 1))
    (kk : ∀ f' : Nat → Int64, f' 0 = w → V p l e R s m args below meth c nL g (oX g X0 o f') Q S cells slots lv (pc + 1) st) : V p l e R s m args below meth c nL g (oX g X0 o f) Q S cells slots lv pc (.long w :: .int 0 :: .ref o :: st) := by
  intro H locs ls hw0 hS0 hl
  refine va_last F.1.1 F.1.2.1 F.2.1.1 hw0.1 hw0.2 hS0 X0.length 6 oX_get rfl (h_idx (j := 0) (i := 0) rfl (by decide) (by decide)).1 d (fun H1 locs1 hP1 hD1 hS1 => ?_)
  rw [oX_set] at hP1 hD1
  exact kk _ rfl H1 locs1 ls ⟨hP1, hD1⟩ hS1 hl
theorem q_retiO {v : Int32} {post : Int32 → Int64 → hS → Prop} {mc ms : Nat} (F : hF p l s m args meth c cc nL Ts own g) (hr : meth.sig.returnType = some .int) (d : decode cc pc = .ok (.ireturn, 1)) (hc : cells ≤ mc) (hs : slots ≤ ms) (h : post v (f 0) S) :
    V p l e R s m args below meth c nL g (oX g X0 o f) (vx_MQ below (hQo g X0 o post) (hXC g X0 (fun _ _ => False)) args s mc ms (hA g)) S cells slots lv pc [.int v] := fun H locs ls hw0 hS0 _ =>
  vx_ret (W.widen hc hs (W.zret F.1.1 F.1.2.1 hr rfl (fun t ht _ => ⟨⟨v, f, S, rfl, h, by rw [ht]; exact hw0⟩, hS0.F ht⟩) hS0.2.2 d F.2.2.1))
theorem h_startO {y : MethodName} {ws ws' : List Cond} {rm : Room} {av : List Value} {maxL : Nat} {ret : Option FieldType} {hh : List (Nat × Nat × Nat × Nat)} {post : Int32 → Int64 → hS → Prop}
    (hy : plainName y.cls = true) (hws : ws = Cond.codeWith y cc maxL ret hh :: ws') (hlen : (lg_sl av).length ≤ maxL)
    (body : ∀ (p : Program) (e : Env) (s : State) (m : MethodId) (args : Array Value) (below : List Frame) (meth : Method) (c : Code), hF p l s m args meth c cc maxL ws y.cls g → meth.sig.returnType = ret → c.exceptionTable.toList = tableOf hh →
      V p l e rm s m args below meth c maxL g (oX g X0 o f) (vx_MQ below (hQo g X0 o post) (hXC g X0 (fun _ _ => False)) args s rm.cells rm.slots (hA g)) S 0 0 (lv_args 0 av) 0 []) : hMetO l y ws rm g X0 o f S av post := by
  refine vx_ofWH (cc := cc) (maxL := maxL) (ret := ret) hy hws ?_
  intro p e s m args below meth c s₁ B hml hv
  obtain ⟨rfl, hz0, hwH, hkH⟩ := hv
  have hts := atoms_spec (ws := ws) B.pre
  have hF9 : hF p l s m av.toArray meth c cc maxL ws y.cls g := ⟨⟨B.exec, B.bytes, hml, findClass_of_methodNamed B.named, hts⟩, hkH, B.notSynchronized, hz0⟩
  rw [lg_entry_eq]
  exact body p e s m _ below meth c hF9 B.returns (vx_table (x := y) B (hts _ (by rw [hws]; exact List.mem_cons_self))) s.heap [] _ hwH va_S.rf (lv_entry av hlen)
theorem h_callO {H : Heap} {locs : List Loc} {ls : Array Slot} {st0 : List Value} {mc ms : Nat} {a : Array Value} {post : Int32 → Int64 → hS → Prop}
    (hr : vx_Run p l e R s m args below meth c H locs cells slots mc ms (F0 m pc ls st0) rest (hQo g X0 o post a) (hXC g X0 (fun _ _ => False)) (hA g)) (hS0 : va_S (hA g) s.heap H locs)
    (kk : ∀ (v : Int32) (f' : Nat → Int64) (S' : hS) (H1 : Heap) (locs1 : List Loc), post v (f' 0) S' → hw g (oX g X0 o f') S' H1 → va_S (hA g) s.heap H1 locs1 → W p l e R s m args below meth c H1 locs1 (cells + mc) (slots + ms) Q (F0 m (pc + 3) ls (.int v :: rest))) : W p l e R s m args below meth c H locs cells slots Q (F0 m pc ls st0) := by
  intro T hT X9
  rcases hr T hT X9 with ⟨v, st₀, t, T', L, h0, X', hL, e1, e2, ⟨⟨v', f', S', hv, hp, hb⟩, hF9⟩, st⟩ | ⟨q, st₀, t, T', L, E, ce, h0, X', hL, e1, e2, ⟨S', hp, hb, hF9⟩, hce, hcv, hcl, st⟩
  · cases hv
    obtain ⟨k1, k2, k3⟩ := vx_keep h0 e1 hS0 (fun _ _ h => h) (fun _ h => h) hL hF9
    obtain ⟨t2, a1, b1⟩ := kk v' f' S' T'.heap (locs ++ L) hp (by rw [e1]; exact hb) k3 T' rfl X'
    exact ⟨t2, st t2 a1, b1⟩
  · exact hp.elim
theorem q_callO {index n maxL : Nat} {y : MethodName} {bytes : ByteArray} {ret : Option FieldType} {ws ws' : List Cond} {rm : Room} {As st0 : List Value} {hh : List (Nat × Nat × Nat × Nat)} {post : Int32 → Int64 → hS → Prop} (F : hF p l s m args meth c cc nL Ts own g) (hM : hMetO l y ws rm g X0 o f S As post) (hG : GoodIn Ts (va_wsS own index y ws)) (hw1 : ws = Cond.codeWith y bytes maxL ret hh :: ws') (hd : y.cls ≠ "java/lang/invoke/MethodHandle" ∧ y.cls ≠ "java/lang/invoke/VarHandle" ∧ (parseMethodDescriptor y.desc).map (fun d => d.parameters.length) = some n) (hR : rm.frames + 1 ≤ R.frames ∧ 8 + (maxL + 11) + rm.locals ≤ R.locals) (hn : As.length = n) (hst : st0 = As.reverse ++ rest) (hr : (rest.map fun v => v.category).sum ≤ 8) (d : decode cc pc = .ok (.invokestatic index, 3)) (hf : cells + rm.cells ≤ R.cells ∧ slots + rm.slots ≤ R.slots)
    (kk : ∀ (v : Int32) (f' : Nat → Int64) (S' : hS), post v (f' 0) S' → V p l e R s m args below meth c nL g (oX g X0 o f') Q S' (cells + rm.cells) (slots + rm.slots) lv (pc + 3) (.int v :: rest)) : V p l e R s m args below meth c nL g (oX g X0 o f) Q S cells slots lv pc st0 := by
  intro H locs ls hw0 hS0 hl
  subst hst
  exact h_callO (vx_runSX F.1 hM (vx_cwSW n F.1.2.2.2.2 hG hw1 rfl rfl hd hR) (h_preS F.2.2.2 F.2.1 hw0 hS0) rfl hn hl.1 rfl (lv_room hr) d hf) hS0 (fun v f' S' H1 locs1 hp hw1 hS1 => kk v f' S' hp H1 locs1 ls hw1 hS1 hl)
end HOut
