/-! ROWS FOR THE LAW'S OWN WALK: the script at b (below the heap's old size), the switch, the comparison of two longs that are the same -/
section HLaw
variable {p : Program} {l : Launch} {e : Env} {R : Room} {s : State} {m : MethodId} {args : Array Value} {below : List Frame} {meth : Method} {c : Code} {nL : Nat} {g : hG} {X : va_W} {Q : State → Prop} {S : hS} {cells slots : Nat} {lv : List (Nat × Value)} {pc : Nat} {st : List Value} {cc : ByteArray} {Ts : List Cond} {own : String} {b L : Nat} {xs : Nat → Int32}
theorem q_sld (F : hF p l s m args meth c cc nL Ts own g) (hX : va_X b L xs s s.heap) (hb : b < s.heap.size) (hbA : b < g.2.2) {i : Int32} {j : Nat} (hij : i = nI j) (hj : j < L) (hL : L < 2 ^ 31) (d : decode cc pc = .ok (.iaload, 1))
    (kk : V p l e R s m args below meth c nL g X Q S cells slots lv (pc + 1) (.int (xs j) :: st)) : V p l e R s m args below meth c nL g X Q S cells slots lv pc (.int i :: .ref b :: st) := by
  intro H locs ls hw0 hS0 hl
  obtain ⟨h1, h2⟩ := h_idx hij hj hL
  refine va_sld F.1.1 F.1.2.1 hX hb (Nat.not_le.mpr hbA) hS0 h1 d ?_
  rw [h2]
  exact kk H locs ls hw0 hS0 hl
theorem q_slen (F : hF p l s m args meth c cc nL Ts own g) (hX : va_X b L xs s s.heap) (hb : b < s.heap.size) (hbA : b < g.2.2) (d : decode cc pc = .ok (.arraylength, 1))
    (kk : V p l e R s m args below meth c nL g X Q S cells slots lv (pc + 1) (.int (nI L) :: st)) : V p l e R s m args below meth c nL g X Q S cells slots lv pc (.ref b :: st) := fun H locs ls hw0 hS0 hl =>
  va_slen F.1.1 F.1.2.1 hX hb (Nat.not_le.mpr hbA) hS0 d (kk H locs ls hw0 hS0 hl)
theorem q_tswO (F : hF p l s m args meth c cc nL Ts own g) {dflt lo hi : Int} {offs : Array Int} {len : Nat} {x : Int32} (tgt : Nat) (d : decode cc pc = .ok (.tableswitch dflt lo hi offs, len)) (h : x.toInt < lo ∨ hi < x.toInt) (ht : (pc : Int) + dflt = (tgt : Int))
    (kk : V p l e R s m args below meth c nL g X Q S cells slots lv tgt st) : V p l e R s m args below meth c nL g X Q S cells slots lv pc (.int x :: st) := fun H locs ls hw0 hS0 hl =>
  lv_tableOut F.1.1 F.1.2.1 d h ht (kk H locs ls hw0 hS0 hl)
theorem q_tswI (F : hF p l s m args meth c cc nL Ts own g) {dflt lo hi : Int} {offs : Array Int} {len : Nat} {x : Int32} {off : Int} (tgt : Nat) (d : decode cc pc = .ok (.tableswitch dflt lo hi offs, len)) (h1 : ¬ x.toInt < lo) (h2 : ¬ hi < x.toInt) (ho : offs[(x.toInt - lo).toNat]? = some off) (ht : (pc : Int) + off = (tgt : Int))
    (kk : V p l e R s m args below meth c nL g X Q S cells slots lv tgt st) : V p l e R s m args below meth c nL g X Q S cells slots lv pc (.int x :: st) := fun H locs ls hw0 hS0 hl =>
  lv_tableIn F.1.1 F.1.2.1 d h1 h2 ho ht (kk H locs ls hw0 hS0 hl)
theorem w_lcmp {H : Heap} {locs : List Loc} {ls : Array Slot} {rest : List Value} (hexec : p.tables.exec = Jvm.exec) (hb : c.code = cc) {x : Int64} (d : decode cc pc = .ok (.lcmp, 1))
    (k : W p l e R s m args below meth c H locs cells slots Q (F0 m (pc + 1) ls (.int 0 :: rest))) : W p l e R s m args below meth c H locs cells slots Q (F0 m pc ls (.long x :: .long x :: rest)) := by
  intro T hT X9
  obtain ⟨t, a, q⟩ := k T hT X9
  refine ⟨t, ?_, q⟩
  have h1 : ¬ x > x := Int64.lt_irrefl
  jvm_step X9.here [X9.here.top, hexec, hb, d]
  simp only [Int64.lt_irrefl, if_false, beq_self_eq_true, if_true] at *
  first | exact a | simpa using a
theorem q_lcmp (F : hF p l s m args meth c cc nL Ts own g) {x y : Int64} (h : x = y) (d : decode cc pc = .ok (.lcmp, 1))
    (kk : V p l e R s m args below meth c nL g X Q S cells slots lv (pc + 1) (.int 0 :: st)) : V p l e R s m args below meth c nL g X Q S cells slots lv pc (.long y :: .long x :: st) := fun H locs ls hw0 hS0 hl => by
  subst h
  exact w_lcmp F.1.1 F.1.2.1 d (kk H locs ls hw0 hS0 hl)
end HLaw
