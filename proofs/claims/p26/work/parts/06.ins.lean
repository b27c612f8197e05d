/-! locals by their numbers -/
def hget : List (Nat × Value) → Nat → Option Value
  | [], _ => none
  | q :: r, i => if q.1 = i then some q.2 else hget r i
def hset : List (Nat × Value) → Nat → Value → List (Nat × Value)
  | [], i, v => [(i, v)]
  | q :: r, i, v => if q.1 = i then hset r i v else q :: hset r i v
/-- no long stands ahead of the place i -/
def hfree1 (i : Nat) : List (Nat × Value) → Bool
  | [] => true
  | q :: r => !(q.1 + 1 == i && q.2.category == 2) && hfree1 i r
def hfree2 (i : Nat) : List (Nat × Value) → Bool
  | [] => true
  | q :: r => (!(q.1 == i + 1) && !(q.1 + 1 == i && q.2.category == 2)) && hfree2 i r
def hall (lv : List (Nat × Value)) : List (Nat × Value) → Prop
  | [] => True
  | q :: r => hget lv q.1 = some q.2 ∧ hall lv r
theorem hget_mem : ∀ {lv : List (Nat × Value)} {i : Nat} {v : Value}, hget lv i = some v → (i, v) ∈ lv
  | [], i, v, h => by cases h
  | q :: r, i, v, h => by
    unfold hget at h
    by_cases hq : q.1 = i
    · rw [if_pos hq] at h
      cases h
      rw [← hq]
      exact List.mem_cons_self
    · rw [if_neg hq] at h
      exact List.mem_cons_of_mem _ (hget_mem h)
theorem hset_mem : ∀ {lv : List (Nat × Value)} {i : Nat} {v : Value} {q : Nat × Value}, q ∈ hset lv i v → q = (i, v) ∨ (q ∈ lv ∧ q.1 ≠ i)
  | [], i, v, q, h => by
    unfold hset at h
    exact Or.inl (List.mem_singleton.mp h)
  | z :: r, i, v, q, h => by
    unfold hset at h
    by_cases hz : z.1 = i
    · rw [if_pos hz] at h
      rcases hset_mem h with h1 | ⟨h1, h2⟩
      · exact Or.inl h1
      · exact Or.inr ⟨List.mem_cons_of_mem _ h1, h2⟩
    · rw [if_neg hz] at h
      rcases List.mem_cons.mp h with h1 | h1
      · subst h1
        exact Or.inr ⟨List.mem_cons_self, hz⟩
      · rcases hset_mem h1 with h2 | ⟨h2, h3⟩
        · exact Or.inl h2
        · exact Or.inr ⟨List.mem_cons_of_mem _ h2, h3⟩
theorem hfree1_mem : ∀ {lv : List (Nat × Value)} {i : Nat}, hfree1 i lv = true → ∀ q ∈ lv, (!(q.1 + 1 == i && q.2.category == 2)) = true
  | [], i, _, q, h => by cases h
  | z :: r, i, h, q, hq => by
    unfold hfree1 at h
    rw [Bool.and_eq_true] at h
    rcases List.mem_cons.mp hq with h1 | h1
    · subst h1; exact h.1
    · exact hfree1_mem h.2 q h1
theorem hfree2_mem : ∀ {lv : List (Nat × Value)} {i : Nat}, hfree2 i lv = true → ∀ q ∈ lv, (!(q.1 == i + 1) && !(q.1 + 1 == i && q.2.category == 2)) = true
  | [], i, _, q, h => by cases h
  | z :: r, i, h, q, hq => by
    unfold hfree2 at h
    rw [Bool.and_eq_true] at h
    rcases List.mem_cons.mp hq with h1 | h1
    · subst h1; exact h.1
    · exact hfree2_mem h.2 q h1
theorem hset_has1 {ls : Array Slot} {nL : Nat} {lv : List (Nat × Value)} {i : Nat} {v : Value} (hf : hfree1 i lv = true) (h : lv_has ls nL ((i, v) :: lv.filter (fun q => !(q.1 == i) && !(q.1 + 1 == i && q.2.category == 2)))) : lv_has ls nL (hset lv i v) := by
  refine ⟨h.1, h.2.1, fun q hq => h.2.2 q ?_⟩
  rcases hset_mem hq with h1 | ⟨h1, h2⟩
  · rw [h1]; exact List.mem_cons_self
  · refine List.mem_cons_of_mem _ (List.mem_filter.mpr ⟨h1, ?_⟩)
    rw [Bool.and_eq_true]
    exact ⟨by simpa using h2, hfree1_mem hf q h1⟩
theorem hset_has2 {ls : Array Slot} {nL : Nat} {lv : List (Nat × Value)} {i : Nat} {v : Value} (hf : hfree2 i lv = true) (h : lv_has ls nL ((i, v) :: lv.filter (fun q => !(q.1 == i) && (!(q.1 == i + 1) && !(q.1 + 1 == i && q.2.category == 2))))) : lv_has ls nL (hset lv i v) := by
  refine ⟨h.1, h.2.1, fun q hq => h.2.2 q ?_⟩
  rcases hset_mem hq with h1 | ⟨h1, h2⟩
  · rw [h1]; exact List.mem_cons_self
  · refine List.mem_cons_of_mem _ (List.mem_filter.mpr ⟨h1, ?_⟩)
    rw [Bool.and_eq_true]
    exact ⟨by simpa using h2, hfree2_mem hf q h1⟩
theorem hall_mem : ∀ {lv lv' : List (Nat × Value)}, hall lv lv' → ∀ q ∈ lv', q ∈ lv
  | lv, [], _, q, h => by cases h
  | lv, z :: r, h, q, hq => by
    rcases List.mem_cons.mp hq with h1 | h1
    · subst h1; exact hget_mem h.1
    · exact hall_mem h.2 q h1
section HIns
variable {p : Program} {l : Launch} {e : Env} {R : Room} {s : State} {m : MethodId} {args : Array Value} {below : List Frame} {meth : Method} {c : Code} {nL : Nat} {g : hG} {X : va_W} {Q : State → Prop} {S : hS} {cells slots : Nat} {lv : List (Nat × Value)} {pc : Nat} {st rest : List Value} {cc : ByteArray} {Ts : List Cond} {own : String}
theorem h_loc {ls : Array Slot} {i : Nat} {v : Value} (hl : lv_has ls nL lv) (h : hget lv i = some v) : ls[i]? = some (.val v) := hl.2.2 (i, v) (hget_mem h)
/-- the same locals as another list tells them -/
theorem q_to {lv' : List (Nat × Value)} (kk : V p l e R s m args below meth c nL g X Q S cells slots lv' pc st) (h : hall lv lv') : V p l e R s m args below meth c nL g X Q S cells slots lv pc st := q_lv (hall_mem h) kk
/-- two roads that meet at tgt with a value on the stack -/
theorem q_cut {tgt : Nat} (v : Value) (st1 : List Value) (kk : V p l e R s m args below meth c nL g X Q S cells slots lv tgt (v :: st1)) (h : V p l e R s m args below meth c nL g X Q S cells slots lv tgt (v :: st1) → V p l e R s m args below meth c nL g X Q S cells slots lv pc st) : V p l e R s m args below meth c nL g X Q S cells slots lv pc st := h kk
theorem q_top {v v' : Value} (kk : V p l e R s m args below meth c nL g X Q S cells slots lv pc (v' :: st)) (h : v = v') : V p l e R s m args below meth c nL g X Q S cells slots lv pc (v :: st) := h ▸ kk
theorem q_pool {S' : hS} (kk : V p l e R s m args below meth c nL g X Q S' cells slots lv pc st) (h : S = S') : V p l e R s m args below meth c nL g X Q S cells slots lv pc st := h ▸ kk
theorem q_iconst (F : hF p l s m args meth c cc nL Ts own g) {n : Int} {v : Int32} (d : decode cc pc = .ok (.iconst n, 1)) (hv : Int32.ofInt n = v)
    (kk : V p l e R s m args below meth c nL g X Q S cells slots lv (pc + 1) (.int v :: st)) : V p l e R s m args below meth c nL g X Q S cells slots lv pc st := fun H locs ls hw0 hS0 hl => lv_iconst F.1.1 F.1.2.1 d hv (kk H locs ls hw0 hS0 hl)
theorem q_bipush (F : hF p l s m args meth c cc nL Ts own g) {n : Int} {v : Int32} (d : decode cc pc = .ok (.bipush n, 2)) (hv : (Int8.ofInt n).toInt32 = v)
    (kk : V p l e R s m args below meth c nL g X Q S cells slots lv (pc + 2) (.int v :: st)) : V p l e R s m args below meth c nL g X Q S cells slots lv pc st := fun H locs ls hw0 hS0 hl => lv_bipush F.1.1 F.1.2.1 d hv (kk H locs ls hw0 hS0 hl)
theorem q_sipush (F : hF p l s m args meth c cc nL Ts own g) {n : Int} {v : Int32} (d : decode cc pc = .ok (.sipush n, 3)) (hv : (Int16.ofInt n).toInt32 = v)
    (kk : V p l e R s m args below meth c nL g X Q S cells slots lv (pc + 3) (.int v :: st)) : V p l e R s m args below meth c nL g X Q S cells slots lv pc st := fun H locs ls hw0 hS0 hl => lv_sipush F.1.1 F.1.2.1 d hv (kk H locs ls hw0 hS0 hl)
theorem q_lconst (F : hF p l s m args meth c cc nL Ts own g) {n : Fin 2} {v : Int64} (d : decode cc pc = .ok (.lconst n, 1)) (hv : Int64.ofNat (n : Nat) = v)
    (kk : V p l e R s m args below meth c nL g X Q S cells slots lv (pc + 1) (.long v :: st)) : V p l e R s m args below meth c nL g X Q S cells slots lv pc st := fun H locs ls hw0 hS0 hl => lv_lconst F.1.1 F.1.2.1 d hv (kk H locs ls hw0 hS0 hl)
theorem q_iload_n (F : hF p l s m args meth c cc nL Ts own g) {k : Fin 4} (i : Nat) {x : Int32} (d : decode cc pc = .ok (.iload_n k, 1)) (hi : (k : Nat) = i) (h : hget lv i = some (.int x))
    (kk : V p l e R s m args below meth c nL g X Q S cells slots lv (pc + 1) (.int x :: st)) : V p l e R s m args below meth c nL g X Q S cells slots lv pc st := fun H locs ls hw0 hS0 hl => lv_iload_n F.1.1 F.1.2.1 d hi (h_loc hl h) (kk H locs ls hw0 hS0 hl)
theorem q_iload (F : hF p l s m args meth c cc nL Ts own g) {i : Nat} {x : Int32} (d : decode cc pc = .ok (.iload i, 2)) (h : hget lv i = some (.int x))
    (kk : V p l e R s m args below meth c nL g X Q S cells slots lv (pc + 2) (.int x :: st)) : V p l e R s m args below meth c nL g X Q S cells slots lv pc st := fun H locs ls hw0 hS0 hl => lv_iload F.1.1 F.1.2.1 d (h_loc hl h) (kk H locs ls hw0 hS0 hl)
theorem q_lload_n (F : hF p l s m args meth c cc nL Ts own g) {k : Fin 4} (i : Nat) {x : Int64} (d : decode cc pc = .ok (.lload_n k, 1)) (hi : (k : Nat) = i) (h : hget lv i = some (.long x))
    (kk : V p l e R s m args below meth c nL g X Q S cells slots lv (pc + 1) (.long x :: st)) : V p l e R s m args below meth c nL g X Q S cells slots lv pc st := fun H locs ls hw0 hS0 hl => lv_lload_n F.1.1 F.1.2.1 d hi (h_loc hl h) (kk H locs ls hw0 hS0 hl)
theorem q_lload (F : hF p l s m args meth c cc nL Ts own g) {i : Nat} {x : Int64} (d : decode cc pc = .ok (.lload i, 2)) (h : hget lv i = some (.long x))
    (kk : V p l e R s m args below meth c nL g X Q S cells slots lv (pc + 2) (.long x :: st)) : V p l e R s m args below meth c nL g X Q S cells slots lv pc st := fun H locs ls hw0 hS0 hl => lv_lload F.1.1 F.1.2.1 d (h_loc hl h) (kk H locs ls hw0 hS0 hl)
theorem q_aload_n (F : hF p l s m args meth c cc nL Ts own g) {k : Fin 4} (i : Nat) {x : Nat} (d : decode cc pc = .ok (.aload_n k, 1)) (hi : (k : Nat) = i) (h : hget lv i = some (.ref x))
    (kk : V p l e R s m args below meth c nL g X Q S cells slots lv (pc + 1) (.ref x :: st)) : V p l e R s m args below meth c nL g X Q S cells slots lv pc st := fun H locs ls hw0 hS0 hl => lv_aload_n F.1.1 F.1.2.1 d hi (h_loc hl h) (kk H locs ls hw0 hS0 hl)
theorem q_aload (F : hF p l s m args meth c cc nL Ts own g) {i : Nat} {x : Nat} (d : decode cc pc = .ok (.aload i, 2)) (h : hget lv i = some (.ref x))
    (kk : V p l e R s m args below meth c nL g X Q S cells slots lv (pc + 2) (.ref x :: st)) : V p l e R s m args below meth c nL g X Q S cells slots lv pc st := fun H locs ls hw0 hS0 hl => lv_aload F.1.1 F.1.2.1 d (h_loc hl h) (kk H locs ls hw0 hS0 hl)
theorem q_aload_nN (F : hF p l s m args meth c cc nL Ts own g) {k : Fin 4} (i : Nat) (d : decode cc pc = .ok (.aload_n k, 1)) (hi : (k : Nat) = i) (h : hget lv i = some .null)
    (kk : V p l e R s m args below meth c nL g X Q S cells slots lv (pc + 1) (.null :: st)) : V p l e R s m args below meth c nL g X Q S cells slots lv pc st := fun H locs ls hw0 hS0 hl => lv_aload_nN F.1.1 F.1.2.1 d hi (h_loc hl h) (kk H locs ls hw0 hS0 hl)
theorem q_aloadN (F : hF p l s m args meth c cc nL Ts own g) {i : Nat} (d : decode cc pc = .ok (.aload i, 2)) (h : hget lv i = some .null)
    (kk : V p l e R s m args below meth c nL g X Q S cells slots lv (pc + 2) (.null :: st)) : V p l e R s m args below meth c nL g X Q S cells slots lv pc st := fun H locs ls hw0 hS0 hl => lv_aloadN F.1.1 F.1.2.1 d (h_loc hl h) (kk H locs ls hw0 hS0 hl)
theorem q_istore_n (F : hF p l s m args meth c cc nL Ts own g) {k : Fin 4} (i : Nat) {x : Int32} (d : decode cc pc = .ok (.istore_n k, 1)) (hi : (k : Nat) = i) (hn : i < nL) (hfr : hfree1 i lv = true)
    (kk : V p l e R s m args below meth c nL g X Q S cells slots (hset lv i (.int x)) (pc + 1) st) : V p l e R s m args below meth c nL g X Q S cells slots lv pc (.int x :: st) := fun H locs ls hw0 hS0 hl => lv_istore_n F.1.1 F.1.2.1 d hi hl hn rfl (fun ls' hl' => kk H locs ls' hw0 hS0 (hset_has1 hfr hl'))
theorem q_istore (F : hF p l s m args meth c cc nL Ts own g) {i : Nat} {x : Int32} (d : decode cc pc = .ok (.istore i, 2)) (hn : i < nL) (hfr : hfree1 i lv = true)
    (kk : V p l e R s m args below meth c nL g X Q S cells slots (hset lv i (.int x)) (pc + 2) st) : V p l e R s m args below meth c nL g X Q S cells slots lv pc (.int x :: st) := fun H locs ls hw0 hS0 hl => lv_istore F.1.1 F.1.2.1 d hl hn rfl (fun ls' hl' => kk H locs ls' hw0 hS0 (hset_has1 hfr hl'))
theorem q_lstore_n (F : hF p l s m args meth c cc nL Ts own g) {k : Fin 4} (i : Nat) {x : Int64} (d : decode cc pc = .ok (.lstore_n k, 1)) (hi : (k : Nat) = i) (hn : i + 1 < nL) (hfr : hfree2 i lv = true)
    (kk : V p l e R s m args below meth c nL g X Q S cells slots (hset lv i (.long x)) (pc + 1) st) : V p l e R s m args below meth c nL g X Q S cells slots lv pc (.long x :: st) := fun H locs ls hw0 hS0 hl => lv_lstore_n F.1.1 F.1.2.1 d hi hl hn rfl (fun ls' hl' => kk H locs ls' hw0 hS0 (hset_has2 hfr hl'))
theorem q_lstore (F : hF p l s m args meth c cc nL Ts own g) {i : Nat} {x : Int64} (d : decode cc pc = .ok (.lstore i, 2)) (hn : i + 1 < nL) (hfr : hfree2 i lv = true)
    (kk : V p l e R s m args below meth c nL g X Q S cells slots (hset lv i (.long x)) (pc + 2) st) : V p l e R s m args below meth c nL g X Q S cells slots lv pc (.long x :: st) := fun H locs ls hw0 hS0 hl => lv_lstore F.1.1 F.1.2.1 d hl hn rfl (fun ls' hl' => kk H locs ls' hw0 hS0 (hset_has2 hfr hl'))
theorem q_astore_n (F : hF p l s m args meth c cc nL Ts own g) {k : Fin 4} (i : Nat) {x : Nat} (d : decode cc pc = .ok (.astore_n k, 1)) (hi : (k : Nat) = i) (hn : i < nL) (hfr : hfree1 i lv = true)
    (kk : V p l e R s m args below meth c nL g X Q S cells slots (hset lv i (.ref x)) (pc + 1) st) : V p l e R s m args below meth c nL g X Q S cells slots lv pc (.ref x :: st) := fun H locs ls hw0 hS0 hl => lv_astore_n F.1.1 F.1.2.1 d hi hl hn rfl (fun ls' hl' => kk H locs ls' hw0 hS0 (hset_has1 hfr hl'))
theorem q_astore (F : hF p l s m args meth c cc nL Ts own g) {i : Nat} {x : Nat} (d : decode cc pc = .ok (.astore i, 2)) (hn : i < nL) (hfr : hfree1 i lv = true)
    (kk : V p l e R s m args below meth c nL g X Q S cells slots (hset lv i (.ref x)) (pc + 2) st) : V p l e R s m args below meth c nL g X Q S cells slots lv pc (.ref x :: st) := fun H locs ls hw0 hS0 hl => lv_astore F.1.1 F.1.2.1 d hl hn rfl (fun ls' hl' => kk H locs ls' hw0 hS0 (hset_has1 hfr hl'))
theorem q_astore_nN (F : hF p l s m args meth c cc nL Ts own g) {k : Fin 4} (i : Nat)  (d : decode cc pc = .ok (.astore_n k, 1)) (hi : (k : Nat) = i) (hn : i < nL) (hfr : hfree1 i lv = true)
    (kk : V p l e R s m args below meth c nL g X Q S cells slots (hset lv i (.null)) (pc + 1) st) : V p l e R s m args below meth c nL g X Q S cells slots lv pc (.null :: st) := fun H locs ls hw0 hS0 hl => lv_astore_nN F.1.1 F.1.2.1 d hi hl hn rfl (fun ls' hl' => kk H locs ls' hw0 hS0 (hset_has1 hfr hl'))
theorem q_astoreN (F : hF p l s m args meth c cc nL Ts own g) {i : Nat}  (d : decode cc pc = .ok (.astore i, 2)) (hn : i < nL) (hfr : hfree1 i lv = true)
    (kk : V p l e R s m args below meth c nL g X Q S cells slots (hset lv i (.null)) (pc + 2) st) : V p l e R s m args below meth c nL g X Q S cells slots lv pc (.null :: st) := fun H locs ls hw0 hS0 hl => lv_astoreN F.1.1 F.1.2.1 d hl hn rfl (fun ls' hl' => kk H locs ls' hw0 hS0 (hset_has1 hfr hl'))
theorem q_iinc (F : hF p l s m args meth c cc nL Ts own g) {i : Nat} {n : Int} {x : Int32} (v : Int32) (d : decode cc pc = .ok (.iinc i n, 3)) (h : hget lv i = some (.int x)) (hv : x + Int32.ofInt n = v) (hn : i < nL) (hfr : hfree1 i lv = true)
    (kk : V p l e R s m args below meth c nL g X Q S cells slots (hset lv i (.int v)) (pc + 3) st) : V p l e R s m args below meth c nL g X Q S cells slots lv pc st := fun H locs ls hw0 hS0 hl => by
  obtain ⟨k, hk⟩ := List.getElem?_of_mem (hget_mem h)
  exact lv_iinc F.1.1 F.1.2.1 d hl hk hv hn rfl (fun ls' hl' => kk H locs ls' hw0 hS0 (hset_has1 hfr hl'))
theorem q_iadd (F : hF p l s m args meth c cc nL Ts own g) {x y : Int32} (d : decode cc pc = .ok (.iadd, 1))
    (kk : V p l e R s m args below meth c nL g X Q S cells slots lv (pc + 1) (.int (x + y) :: st)) : V p l e R s m args below meth c nL g X Q S cells slots lv pc (.int y :: .int x :: st) := fun H locs ls hw0 hS0 hl => lv_iadd F.1.1 F.1.2.1 d (kk H locs ls hw0 hS0 hl)
theorem q_isub (F : hF p l s m args meth c cc nL Ts own g) {x y : Int32} (d : decode cc pc = .ok (.isub, 1))
    (kk : V p l e R s m args below meth c nL g X Q S cells slots lv (pc + 1) (.int (x - y) :: st)) : V p l e R s m args below meth c nL g X Q S cells slots lv pc (.int y :: .int x :: st) := fun H locs ls hw0 hS0 hl => lv_isub F.1.1 F.1.2.1 d (kk H locs ls hw0 hS0 hl)
theorem q_imul (F : hF p l s m args meth c cc nL Ts own g) {x y : Int32} (d : decode cc pc = .ok (.imul, 1))
    (kk : V p l e R s m args below meth c nL g X Q S cells slots lv (pc + 1) (.int (x * y) :: st)) : V p l e R s m args below meth c nL g X Q S cells slots lv pc (.int y :: .int x :: st) := fun H locs ls hw0 hS0 hl => lv_imul F.1.1 F.1.2.1 d (kk H locs ls hw0 hS0 hl)
theorem q_iand (F : hF p l s m args meth c cc nL Ts own g) {x y : Int32} (d : decode cc pc = .ok (.iand, 1))
    (kk : V p l e R s m args below meth c nL g X Q S cells slots lv (pc + 1) (.int (x &&& y) :: st)) : V p l e R s m args below meth c nL g X Q S cells slots lv pc (.int y :: .int x :: st) := fun H locs ls hw0 hS0 hl => lv_iand F.1.1 F.1.2.1 d (kk H locs ls hw0 hS0 hl)
theorem q_idiv (F : hF p l s m args meth c cc nL Ts own g) {x y : Int32} (d : decode cc pc = .ok (.idiv, 1)) (hne : ¬ y = 0)
    (kk : V p l e R s m args below meth c nL g X Q S cells slots lv (pc + 1) (.int (x / y) :: st)) : V p l e R s m args below meth c nL g X Q S cells slots lv pc (.int y :: .int x :: st) := fun H locs ls hw0 hS0 hl => lv_idiv F.1.1 F.1.2.1 d hne (kk H locs ls hw0 hS0 hl)
theorem q_irem (F : hF p l s m args meth c cc nL Ts own g) {x y : Int32} (d : decode cc pc = .ok (.irem, 1)) (hne : ¬ y = 0)
    (kk : V p l e R s m args below meth c nL g X Q S cells slots lv (pc + 1) (.int (x % y) :: st)) : V p l e R s m args below meth c nL g X Q S cells slots lv pc (.int y :: .int x :: st) := fun H locs ls hw0 hS0 hl => lv_irem F.1.1 F.1.2.1 d hne (by rw [irem_eq_mod]; exact kk H locs ls hw0 hS0 hl)
theorem q_ishr (F : hF p l s m args meth c cc nL Ts own g) {x y : Int32} (d : decode cc pc = .ok (.ishr, 1))
    (kk : V p l e R s m args below meth c nL g X Q S cells slots lv (pc + 1) (.int (x >>> (y &&& 31)) :: st)) : V p l e R s m args below meth c nL g X Q S cells slots lv pc (.int y :: .int x :: st) := fun H locs ls hw0 hS0 hl => lv_ishr F.1.1 F.1.2.1 d (kk H locs ls hw0 hS0 hl)
theorem q_i2l (F : hF p l s m args meth c cc nL Ts own g) {x : Int32} (d : decode cc pc = .ok (.i2l, 1))
    (kk : V p l e R s m args below meth c nL g X Q S cells slots lv (pc + 1) (.long x.toInt64 :: st)) : V p l e R s m args below meth c nL g X Q S cells slots lv pc (.int x :: st) := fun H locs ls hw0 hS0 hl => lv_i2l F.1.1 F.1.2.1 d rfl (kk H locs ls hw0 hS0 hl)
theorem q_lshl (F : hF p l s m args meth c cc nL Ts own g) {x : Int64} {y : Int32} (d : decode cc pc = .ok (.lshl, 1))
    (kk : V p l e R s m args below meth c nL g X Q S cells slots lv (pc + 1) (.long (x <<< (y.toInt64 &&& 63)) :: st)) : V p l e R s m args below meth c nL g X Q S cells slots lv pc (.int y :: .long x :: st) := fun H locs ls hw0 hS0 hl => lv_lshl F.1.1 F.1.2.1 d rfl (kk H locs ls hw0 hS0 hl)
theorem q_lor (F : hF p l s m args meth c cc nL Ts own g) {x y : Int64} (d : decode cc pc = .ok (.lor, 1))
    (kk : V p l e R s m args below meth c nL g X Q S cells slots lv (pc + 1) (.long (x ||| y) :: st)) : V p l e R s m args below meth c nL g X Q S cells slots lv pc (.long y :: .long x :: st) := fun H locs ls hw0 hS0 hl => lv_lor F.1.1 F.1.2.1 d (kk H locs ls hw0 hS0 hl)
theorem q_dup (F : hF p l s m args meth c cc nL Ts own g) {v : Value} (d : decode cc pc = .ok (.dup, 1)) (hv : v.category = 1)
    (kk : V p l e R s m args below meth c nL g X Q S cells slots lv (pc + 1) (v :: v :: st)) : V p l e R s m args below meth c nL g X Q S cells slots lv pc (v :: st) := fun H locs ls hw0 hS0 hl => lv_dup F.1.1 F.1.2.1 d hv (kk H locs ls hw0 hS0 hl)
theorem q_pop (F : hF p l s m args meth c cc nL Ts own g) {v : Value} (d : decode cc pc = .ok (.pop, 1)) (hv : v.category = 1)
    (kk : V p l e R s m args below meth c nL g X Q S cells slots lv (pc + 1) st) : V p l e R s m args below meth c nL g X Q S cells slots lv pc (v :: st) := fun H locs ls hw0 hS0 hl => lv_pop F.1.1 F.1.2.1 d hv (kk H locs ls hw0 hS0 hl)
theorem q_dup2 (F : hF p l s m args meth c cc nL Ts own g) {v w : Value} (d : decode cc pc = .ok (.dup2, 1)) (hv : v.category = 1) (hw : w.category = 1)
    (kk : V p l e R s m args below meth c nL g X Q S cells slots lv (pc + 1) (v :: w :: v :: w :: st)) : V p l e R s m args below meth c nL g X Q S cells slots lv pc (v :: w :: st) := fun H locs ls hw0 hS0 hl => lv_dup2_11 F.1.1 F.1.2.1 d hv hw (kk H locs ls hw0 hS0 hl)
theorem q_goto (F : hF p l s m args meth c cc nL Ts own g) {off : Int} (tgt : Nat) (d : decode cc pc = .ok (.goto off, 3)) (ht : (pc : Int) + off = (tgt : Int))
    (kk : V p l e R s m args below meth c nL g X Q S cells slots lv tgt st) : V p l e R s m args below meth c nL g X Q S cells slots lv pc st := fun H locs ls hw0 hS0 hl => lv_goto F.1.1 F.1.2.1 d ht (kk H locs ls hw0 hS0 hl)
theorem q_null (F : hF p l s m args meth c cc nL Ts own g)  (d : decode cc pc = .ok (.aconst_null, 1))
    (kk : V p l e R s m args below meth c nL g X Q S cells slots lv (pc + 1) (.null :: st)) : V p l e R s m args below meth c nL g X Q S cells slots lv pc st := fun H locs ls hw0 hS0 hl => lv_null F.1.1 F.1.2.1 d (kk H locs ls hw0 hS0 hl)
theorem q_ifnull (F : hF p l s m args meth c cc nL Ts own g) {x : Nat} {off : Int} (d : decode cc pc = .ok (.ifnull off, 3))
    (kk : V p l e R s m args below meth c nL g X Q S cells slots lv (pc + 3) st) : V p l e R s m args below meth c nL g X Q S cells slots lv pc (.ref x :: st) := fun H locs ls hw0 hS0 hl => lv_ifnull F.1.1 F.1.2.1 d (kk H locs ls hw0 hS0 hl)
theorem q_ifnullN (F : hF p l s m args meth c cc nL Ts own g) {off : Int} (tgt : Nat) (d : decode cc pc = .ok (.ifnull off, 3)) (ht : (pc : Int) + off = (tgt : Int))
    (kk : V p l e R s m args below meth c nL g X Q S cells slots lv tgt st) : V p l e R s m args below meth c nL g X Q S cells slots lv pc (.null :: st) := fun H locs ls hw0 hS0 hl => lv_ifnullN F.1.1 F.1.2.1 d ht (kk H locs ls hw0 hS0 hl)
theorem q_ifnonnull (F : hF p l s m args meth c cc nL Ts own g) {x : Nat} {off : Int} (tgt : Nat) (d : decode cc pc = .ok (.ifnonnull off, 3)) (ht : (pc : Int) + off = (tgt : Int))
    (kk : V p l e R s m args below meth c nL g X Q S cells slots lv tgt st) : V p l e R s m args below meth c nL g X Q S cells slots lv pc (.ref x :: st) := fun H locs ls hw0 hS0 hl => lv_ifnonnull F.1.1 F.1.2.1 d ht (kk H locs ls hw0 hS0 hl)
theorem q_ifnonnullN (F : hF p l s m args meth c cc nL Ts own g) {off : Int} (d : decode cc pc = .ok (.ifnonnull off, 3))
    (kk : V p l e R s m args below meth c nL g X Q S cells slots lv (pc + 3) st) : V p l e R s m args below meth c nL g X Q S cells slots lv pc (.null :: st) := fun H locs ls hw0 hS0 hl => lv_ifnonnullN F.1.1 F.1.2.1 d (kk H locs ls hw0 hS0 hl)
theorem q_if_eq (F : hF p l s m args meth c cc nL Ts own g) {x : Int32} {off : Int} (tgt : Nat) (d : decode cc pc = .ok (.ifCond .eq off, 3)) (ht : (pc : Int) + off = (tgt : Int))
    (kt : x = 0 → V p l e R s m args below meth c nL g X Q S cells slots lv tgt st) (kf : ¬ x = 0 → V p l e R s m args below meth c nL g X Q S cells slots lv (pc + 3) st) : V p l e R s m args below meth c nL g X Q S cells slots lv pc (.int x :: st) := fun H locs ls hw0 hS0 hl => lv_if_eq F.1.1 F.1.2.1 d ht (fun h => kt h H locs ls hw0 hS0 hl) (fun h => kf h H locs ls hw0 hS0 hl)
theorem q_icmp_eq (F : hF p l s m args meth c cc nL Ts own g) {x y : Int32} {off : Int} (tgt : Nat) (d : decode cc pc = .ok (.if_icmp .eq off, 3)) (ht : (pc : Int) + off = (tgt : Int))
    (kt : x = y → V p l e R s m args below meth c nL g X Q S cells slots lv tgt st) (kf : ¬ x = y → V p l e R s m args below meth c nL g X Q S cells slots lv (pc + 3) st) : V p l e R s m args below meth c nL g X Q S cells slots lv pc (.int y :: .int x :: st) := fun H locs ls hw0 hS0 hl => lv_icmp_eq F.1.1 F.1.2.1 d ht (fun h => kt h H locs ls hw0 hS0 hl) (fun h => kf h H locs ls hw0 hS0 hl)
theorem q_if_ne (F : hF p l s m args meth c cc nL Ts own g) {x : Int32} {off : Int} (tgt : Nat) (d : decode cc pc = .ok (.ifCond .ne off, 3)) (ht : (pc : Int) + off = (tgt : Int))
    (kt : ¬ x = 0 → V p l e R s m args below meth c nL g X Q S cells slots lv tgt st) (kf : x = 0 → V p l e R s m args below meth c nL g X Q S cells slots lv (pc + 3) st) : V p l e R s m args below meth c nL g X Q S cells slots lv pc (.int x :: st) := fun H locs ls hw0 hS0 hl => lv_if_ne F.1.1 F.1.2.1 d ht (fun h => kt h H locs ls hw0 hS0 hl) (fun h => kf h H locs ls hw0 hS0 hl)
theorem q_icmp_ne (F : hF p l s m args meth c cc nL Ts own g) {x y : Int32} {off : Int} (tgt : Nat) (d : decode cc pc = .ok (.if_icmp .ne off, 3)) (ht : (pc : Int) + off = (tgt : Int))
    (kt : ¬ x = y → V p l e R s m args below meth c nL g X Q S cells slots lv tgt st) (kf : x = y → V p l e R s m args below meth c nL g X Q S cells slots lv (pc + 3) st) : V p l e R s m args below meth c nL g X Q S cells slots lv pc (.int y :: .int x :: st) := fun H locs ls hw0 hS0 hl => lv_icmp_ne F.1.1 F.1.2.1 d ht (fun h => kt h H locs ls hw0 hS0 hl) (fun h => kf h H locs ls hw0 hS0 hl)
theorem q_if_lt (F : hF p l s m args meth c cc nL Ts own g) {x : Int32} {off : Int} (tgt : Nat) (d : decode cc pc = .ok (.ifCond .lt off, 3)) (ht : (pc : Int) + off = (tgt : Int))
    (kt : x < 0 → V p l e R s m args below meth c nL g X Q S cells slots lv tgt st) (kf : ¬ x < 0 → V p l e R s m args below meth c nL g X Q S cells slots lv (pc + 3) st) : V p l e R s m args below meth c nL g X Q S cells slots lv pc (.int x :: st) := fun H locs ls hw0 hS0 hl => lv_if_lt F.1.1 F.1.2.1 d ht (fun h => kt h H locs ls hw0 hS0 hl) (fun h => kf h H locs ls hw0 hS0 hl)
theorem q_icmp_lt (F : hF p l s m args meth c cc nL Ts own g) {x y : Int32} {off : Int} (tgt : Nat) (d : decode cc pc = .ok (.if_icmp .lt off, 3)) (ht : (pc : Int) + off = (tgt : Int))
    (kt : x < y → V p l e R s m args below meth c nL g X Q S cells slots lv tgt st) (kf : ¬ x < y → V p l e R s m args below meth c nL g X Q S cells slots lv (pc + 3) st) : V p l e R s m args below meth c nL g X Q S cells slots lv pc (.int y :: .int x :: st) := fun H locs ls hw0 hS0 hl => lv_icmp_lt F.1.1 F.1.2.1 d ht (fun h => kt h H locs ls hw0 hS0 hl) (fun h => kf h H locs ls hw0 hS0 hl)
theorem q_if_ge (F : hF p l s m args meth c cc nL Ts own g) {x : Int32} {off : Int} (tgt : Nat) (d : decode cc pc = .ok (.ifCond .ge off, 3)) (ht : (pc : Int) + off = (tgt : Int))
    (kt : 0 ≤ x → V p l e R s m args below meth c nL g X Q S cells slots lv tgt st) (kf : ¬ 0 ≤ x → V p l e R s m args below meth c nL g X Q S cells slots lv (pc + 3) st) : V p l e R s m args below meth c nL g X Q S cells slots lv pc (.int x :: st) := fun H locs ls hw0 hS0 hl => lv_if_ge F.1.1 F.1.2.1 d ht (fun h => kt h H locs ls hw0 hS0 hl) (fun h => kf h H locs ls hw0 hS0 hl)
theorem q_icmp_ge (F : hF p l s m args meth c cc nL Ts own g) {x y : Int32} {off : Int} (tgt : Nat) (d : decode cc pc = .ok (.if_icmp .ge off, 3)) (ht : (pc : Int) + off = (tgt : Int))
    (kt : y ≤ x → V p l e R s m args below meth c nL g X Q S cells slots lv tgt st) (kf : ¬ y ≤ x → V p l e R s m args below meth c nL g X Q S cells slots lv (pc + 3) st) : V p l e R s m args below meth c nL g X Q S cells slots lv pc (.int y :: .int x :: st) := fun H locs ls hw0 hS0 hl => lv_icmp_ge F.1.1 F.1.2.1 d ht (fun h => kt h H locs ls hw0 hS0 hl) (fun h => kf h H locs ls hw0 hS0 hl)
theorem q_if_gt (F : hF p l s m args meth c cc nL Ts own g) {x : Int32} {off : Int} (tgt : Nat) (d : decode cc pc = .ok (.ifCond .gt off, 3)) (ht : (pc : Int) + off = (tgt : Int))
    (kt : 0 < x → V p l e R s m args below meth c nL g X Q S cells slots lv tgt st) (kf : ¬ 0 < x → V p l e R s m args below meth c nL g X Q S cells slots lv (pc + 3) st) : V p l e R s m args below meth c nL g X Q S cells slots lv pc (.int x :: st) := fun H locs ls hw0 hS0 hl => lv_if_gt F.1.1 F.1.2.1 d ht (fun h => kt h H locs ls hw0 hS0 hl) (fun h => kf h H locs ls hw0 hS0 hl)
theorem q_icmp_gt (F : hF p l s m args meth c cc nL Ts own g) {x y : Int32} {off : Int} (tgt : Nat) (d : decode cc pc = .ok (.if_icmp .gt off, 3)) (ht : (pc : Int) + off = (tgt : Int))
    (kt : y < x → V p l e R s m args below meth c nL g X Q S cells slots lv tgt st) (kf : ¬ y < x → V p l e R s m args below meth c nL g X Q S cells slots lv (pc + 3) st) : V p l e R s m args below meth c nL g X Q S cells slots lv pc (.int y :: .int x :: st) := fun H locs ls hw0 hS0 hl => lv_icmp_gt F.1.1 F.1.2.1 d ht (fun h => kt h H locs ls hw0 hS0 hl) (fun h => kf h H locs ls hw0 hS0 hl)
theorem q_if_le (F : hF p l s m args meth c cc nL Ts own g) {x : Int32} {off : Int} (tgt : Nat) (d : decode cc pc = .ok (.ifCond .le off, 3)) (ht : (pc : Int) + off = (tgt : Int))
    (kt : x ≤ 0 → V p l e R s m args below meth c nL g X Q S cells slots lv tgt st) (kf : ¬ x ≤ 0 → V p l e R s m args below meth c nL g X Q S cells slots lv (pc + 3) st) : V p l e R s m args below meth c nL g X Q S cells slots lv pc (.int x :: st) := fun H locs ls hw0 hS0 hl => lv_if_le F.1.1 F.1.2.1 d ht (fun h => kt h H locs ls hw0 hS0 hl) (fun h => kf h H locs ls hw0 hS0 hl)
theorem q_icmp_le (F : hF p l s m args meth c cc nL Ts own g) {x y : Int32} {off : Int} (tgt : Nat) (d : decode cc pc = .ok (.if_icmp .le off, 3)) (ht : (pc : Int) + off = (tgt : Int))
    (kt : x ≤ y → V p l e R s m args below meth c nL g X Q S cells slots lv tgt st) (kf : ¬ x ≤ y → V p l e R s m args below meth c nL g X Q S cells slots lv (pc + 3) st) : V p l e R s m args below meth c nL g X Q S cells slots lv pc (.int y :: .int x :: st) := fun H locs ls hw0 hS0 hl => lv_icmp_le F.1.1 F.1.2.1 d ht (fun h => kt h H locs ls hw0 hS0 hl) (fun h => kf h H locs ls hw0 hS0 hl)
theorem hc_m1 : Int32.ofInt (-1) = (-1 : Int32) := by decide
theorem hc_0 : Int32.ofInt 0 = (0 : Int32) := by decide
theorem hc_1 : Int32.ofInt 1 = (1 : Int32) := by decide
theorem hc_2 : Int32.ofInt 2 = (2 : Int32) := by decide
theorem hc_3 : Int32.ofInt 3 = (3 : Int32) := by decide
theorem hc_4 : Int32.ofInt 4 = (4 : Int32) := by decide
theorem hc_5 : Int32.ofInt 5 = (5 : Int32) := by decide
end HIns

