/-! the heap's rows over the pool -/
theorem hE_ne {cy : Nat → ClassId} {S T : hS} {b : Nat} (h0 : sK T b = sK S b) (h1 : ∀ x, sF T x b = sF S x b) (h2 : ∀ x, sR T x b = sR S x b) (h3 : sN T b = sN S b) (h4 : sA T b = sA S b) (h5 : sB T b = sB S b) : hE cy T b = hE cy S b := by
  unfold hE
  rw [h0]
  exact hC_congr h1 h2 h3 h4 h5
theorem hE_uF {cy : Nat → ClassId} (S : hS) (k a : Nat) (v : Int32) {b : Nat} (h : b ≠ a) : hE cy (uF S k a v) b = hE cy S b :=
  hE_ne rfl (fun x => by rw [sF_uF, if_neg (fun z => h z.2)]) (fun _ => rfl) rfl rfl rfl
theorem hE_uR {cy : Nat → ClassId} (S : hS) (k a : Nat) (v : Option Nat) {b : Nat} (h : b ≠ a) : hE cy (uR S k a v) b = hE cy S b :=
  hE_ne rfl (fun _ => rfl) (fun x => by rw [sR_uR, if_neg (fun z => h z.2)]) rfl rfl rfl
theorem hE_uA {cy : Nat → ClassId} (S : hS) (a j : Nat) (v : Int32) {b : Nat} (h : b ≠ a) : hE cy (uA S a j v) b = hE cy S b :=
  hE_ne rfl (fun _ => rfl) (fun _ => rfl) rfl (u2_off _ _ _ h) rfl
theorem hE_uB {cy : Nat → ClassId} (S : hS) (a j : Nat) (v : Option Nat) {b : Nat} (h : b ≠ a) : hE cy (uB S a j v) b = hE cy S b :=
  hE_ne rfl (fun _ => rfl) (fun _ => rfl) rfl rfl (u2_off _ _ _ h)
theorem hE_nO {cy : Nat → ClassId} (S : hS) (k q : Nat) {b : Nat} (h : b ≠ q) : hE cy (nO S k q) b = hE cy S b :=
  hE_ne (by rw [sK_nO, if_neg h]) (fun x => by rw [sF_nO, if_neg h]) (fun x => by rw [sR_nO, if_neg h]) rfl rfl rfl
theorem hE_nA {cy : Nat → ClassId} (S : hS) (k q n : Nat) {b : Nat} (h : b ≠ q) : hE cy (nA S k q n) b = hE cy S b :=
  hE_ne (by rw [sK_nA, if_neg h]) (fun _ => rfl) (fun _ => rfl) (by rw [sN_nA, if_neg h]) (va_up_ne _ _ h) (va_up_ne _ _ h)
theorem hE_k {cy : Nat → ClassId} {S : hS} {a k : Nat} (h : sK S a = k) : hE cy S a = hC cy S k a := by unfold hE; rw [h]
/-- a truth value -/
def isB (x : Int32) : Prop := x = 0 ∨ x = 1
theorem isB_nar {x : Int32} (h : isB x) : narrow .boolean (.int x) = .int x := by rcases h with rfl | rfl <;> rfl
theorem isB_fits {x : Int32} (h : isB x) : fits .boolean (.int x) = true := by rcases h with rfl | rfl <;> rfl
theorem isB_vp {x : Int32} (h : isB x) : vp_nar .boolean x = x := by rcases h with rfl | rfl <;> rfl
section HHeap
variable {p : Program} {l : Launch} {e : Env} {R : Room} {s : State} {m : MethodId} {args : Array Value} {below : List Frame} {meth : Method} {c : Code} {nL : Nat} {g : hG} {X : va_W} {Q : State → Prop} {S : hS} {cells slots : Nat} {lv : List (Nat × Value)} {pc : Nat} {st rest : List Value} {cc : ByteArray} {Ts : List Cond} {own : String}
variable {a ci N index k : Nat} {C : String} {T : u_T} {fs : List Value} {v : Value}
theorem h_lays {H : Heap} (hk0 : hk g s H) : ∀ w ∈ wsL_law, w.before args s = true := fun w hw => hk_word hk0 hw args
theorem q_getG (F : hF p l s m args meth c cc nL Ts own g) (hc : vwCl[ci]? = some (C, T, N)) (hin : ∀ w ∈ u_ws C T N, w ∈ wsL_law) (hkN : k < N) (hlink : Cond.fieldLink own index (T k).1 (T k).2.1 (T k).2.2.1 ∈ wsL_law) (hE0 : hC g.2.1 S ci a = .inr (ci, fs)) (hv : fs[k]? = some v) (ho : isO S a ci) (d : decode cc pc = .ok (.getfield index, 3))
    (kk : V p l e R s m args below meth c nL g X Q S cells slots lv (pc + 3) (v :: st)) : V p l e R s m args below meth c nL g X Q S cells slots lv pc (.ref a :: st) := by
  intro H locs ls hw0 hS0 hl
  obtain ⟨i, -, hi⟩ := hw_get (g := g) (X := X) ho
  rw [hE0] at hi
  exact va_get F.1.1 F.1.2.1 (h_lays F.2.1) hin F.1.2.2.2.1 F.2.1.1 hw0.1 i hi hc k hkN (hk_word F.2.1 hlink args) (fun _ h => h) hv d (kk H locs ls hw0 hS0 hl)
theorem q_getNG (F : hF p l s m args meth c cc nL Ts own g) (hc : vwCl[ci]? = some (C, T, N)) (hin : ∀ w ∈ u_ws C T N, w ∈ wsL_law) (hkN : k < N) (hlink : (own, index, (T k).1, (T k).2.1, (T k).2.2.1) ∈ hNF) (hE0 : hC g.2.1 S ci a = .inr (ci, fs)) (hv : fs[k]? = some v) (ho : isO S a ci) (d : decode cc pc = .ok (.getfield index, 3))
    (kk : V p l e R s m args below meth c nL g X Q S cells slots lv (pc + 3) (v :: st)) : V p l e R s m args below meth c nL g X Q S cells slots lv pc (.ref a :: st) := by
  intro H locs ls hw0 hS0 hl
  obtain ⟨i, -, hi⟩ := hw_get (g := g) (X := X) ho
  rw [hE0] at hi
  exact va_getN F.1.1 F.1.2.1 (h_lays F.2.1) hin F.1.2.2.2.1 F.2.1.1 hw0.1 i hi hc k hkN (va_Nw.use rfl (F.2.1.2.2.2.2.1 _ hlink)) (fun _ h => h) hv d (kk H locs ls hw0 hS0 hl)
theorem q_putG {S1 : hS} {ty0 : Nat → FieldType} {ty : FieldType} (F : hF p l s m args meth c cc nL Ts own g) (hc : vwCl[ci]? = some (C, T, N)) (hin : ∀ w ∈ u_ws C T N, w ∈ wsL_law) (hty : ∀ k, k < N → parseFieldDescriptor (T k).2.2.1 = some (ty0 k)) (hnm : ∀ a, a < N → ∀ b, b < N → a ≠ b → (T a).2.1 ≠ (T b).2.1) (hkN : k < N) (hlink : Cond.fieldLink own index (T k).1 (T k).2.1 (T k).2.2.1 ∈ wsL_law) (hfin : (T k).2.2.2 = false) (hd : parseFieldDescriptor (T k).2.2.1 = some ty) (hn : narrow ty v = v) (hft : fits ty v = true)
    (hE0 : hC g.2.1 S ci a = .inr (ci, fs)) (hlen : k < fs.length) (hE1 : hE g.2.1 S1 a = .inr (ci, fs.set k v)) (hne : ∀ b, b ≠ a → hE g.2.1 S1 b = hE g.2.1 S b) (hL : sL S1 = sL S) (ho : isO S a ci) (d : decode cc pc = .ok (.putfield index, 3))
    (kk : V p l e R s m args below meth c nL g X Q S1 cells slots lv (pc + 3) st) : V p l e R s m args below meth c nL g X Q S cells slots lv pc (v :: .ref a :: st) := by
  intro H locs ls hw0 hS0 hl
  obtain ⟨i, hi0, hi⟩ := hw_get (g := g) (X := X) ho
  rw [hE0] at hi
  have hset := hw_set (g := g) (X := X) (T := S1) hw0.2 ho.1 hi0 hL hE1 hne
  refine va_put F.1.1 F.1.2.1 (h_lays F.2.1) hin ty0 hty hnm F.1.2.2.2.1 F.2.1.1 hw0.1 hw0.2 hS0 i hi hc k hkN (hk_word F.2.1 hlink args) (fun _ h => h) hfin hd hn hft hlen d (fun H1 locs1 hP1 hD1 hS1 => ?_)
  rw [hset] at hP1 hD1
  exact kk H1 locs1 ls ⟨hP1, hD1⟩ hS1 hl
theorem q_putNG {S1 : hS} {ty0 : Nat → FieldType} {ty : FieldType} (F : hF p l s m args meth c cc nL Ts own g) (hc : vwCl[ci]? = some (C, T, N)) (hin : ∀ w ∈ u_ws C T N, w ∈ wsL_law) (hty : ∀ k, k < N → parseFieldDescriptor (T k).2.2.1 = some (ty0 k)) (hnm : ∀ a, a < N → ∀ b, b < N → a ≠ b → (T a).2.1 ≠ (T b).2.1) (hkN : k < N) (hlink : (own, index, (T k).1, (T k).2.1, (T k).2.2.1) ∈ hNF) (hfin : (T k).2.2.2 = false) (hd : parseFieldDescriptor (T k).2.2.1 = some ty) (hn : narrow ty v = v) (hft : fits ty v = true)
    (hE0 : hC g.2.1 S ci a = .inr (ci, fs)) (hlen : k < fs.length) (hE1 : hE g.2.1 S1 a = .inr (ci, fs.set k v)) (hne : ∀ b, b ≠ a → hE g.2.1 S1 b = hE g.2.1 S b) (hL : sL S1 = sL S) (ho : isO S a ci) (d : decode cc pc = .ok (.putfield index, 3))
    (kk : V p l e R s m args below meth c nL g X Q S1 cells slots lv (pc + 3) st) : V p l e R s m args below meth c nL g X Q S cells slots lv pc (v :: .ref a :: st) := by
  intro H locs ls hw0 hS0 hl
  obtain ⟨i, hi0, hi⟩ := hw_get (g := g) (X := X) ho
  rw [hE0] at hi
  have hset := hw_set (g := g) (X := X) (T := S1) hw0.2 ho.1 hi0 hL hE1 hne
  refine va_putN F.1.1 F.1.2.1 (h_lays F.2.1) hin ty0 hty hnm F.1.2.2.2.1 F.2.1.1 hw0.1 hw0.2 hS0 i hi hc k hkN (va_Nw.use rfl (F.2.1.2.2.2.2.1 _ hlink)) (fun _ h => h) hfin hd hn hft hlen d (fun H1 locs1 hP1 hD1 hS1 => ?_)
  rw [hset] at hP1 hD1
  exact kk H1 locs1 ls ⟨hP1, hD1⟩ hS1 hl
theorem q_putFG {S1 : hS} {ty0 : Nat → FieldType} {ty : FieldType} (F : hF p l s m args meth c cc nL Ts own g) (hc : vwCl[ci]? = some (C, T, N)) (hin : ∀ w ∈ u_ws C T N, w ∈ wsL_law) (hty : ∀ k, k < N → parseFieldDescriptor (T k).2.2.1 = some (ty0 k)) (hnm : ∀ a, a < N → ∀ b, b < N → a ≠ b → (T a).2.1 ≠ (T b).2.1) (hkN : k < N) (hlink : Cond.fieldLink own index (T k).1 (T k).2.1 (T k).2.2.1 ∈ wsL_law) (hfin : (T k).2.2.2 = true) (hin2 : meth.name = "<init>") (hdecl : (T k).1 = own) (hd : parseFieldDescriptor (T k).2.2.1 = some ty) (hn : narrow ty v = v) (hft : fits ty v = true)
    (hE0 : hC g.2.1 S ci a = .inr (ci, fs)) (hlen : k < fs.length) (hE1 : hE g.2.1 S1 a = .inr (ci, fs.set k v)) (hne : ∀ b, b ≠ a → hE g.2.1 S1 b = hE g.2.1 S b) (hL : sL S1 = sL S) (ho : isO S a ci) (d : decode cc pc = .ok (.putfield index, 3))
    (kk : V p l e R s m args below meth c nL g X Q S1 cells slots lv (pc + 3) st) : V p l e R s m args below meth c nL g X Q S cells slots lv pc (v :: .ref a :: st) := by
  intro H locs ls hw0 hS0 hl
  obtain ⟨i, hi0, hi⟩ := hw_get (g := g) (X := X) ho
  rw [hE0] at hi
  have hset := hw_set (g := g) (X := X) (T := S1) hw0.2 ho.1 hi0 hL hE1 hne
  refine va_putF F.1.1 F.1.2.1 (h_lays F.2.1) hin ty0 hty hnm F.1.2.2.2.1 F.2.1.1 hw0.1 hw0.2 hS0 i hi hc k hkN (hk_word F.2.1 hlink args) (fun _ h => h) hfin hin2 hdecl hd hn hft hlen d (fun H1 locs1 hP1 hD1 hS1 => ?_)
  rw [hset] at hP1 hD1
  exact kk H1 locs1 ls ⟨hP1, hD1⟩ hS1 hl
theorem q_newG {ty : Nat → FieldType} (F : hF p l s m args meth c cc nL Ts own g) (hc : vwCl[ci]? = some (C, T, N)) (hin : ∀ w ∈ u_ws C T N, w ∈ wsL_law) (hty : ∀ k, k < N → parseFieldDescriptor (T k).2.2.1 = some (ty k)) (hcl : Cond.classLink own index C ∈ wsL_law) (hinst : Cond.instantiable C N ∈ wsL_law) (hini : Cond.initialized C ∈ wsL_law) (hfs : ∀ j, j < N → defaultValue (ty j) = vp_V fs j) (hE1 : ∀ q, hE g.2.1 (nO S ci q) q = .inr (ci, fs)) (hf : cells + 1 ≤ R.cells ∧ slots + N ≤ R.slots) (d : decode cc pc = .ok (.new index, 3))
    (kk : ∀ q : Nat, q ∉ sL S → V p l e R s m args below meth c nL g X Q (nO S ci q) (cells + 1) (slots + N) lv (pc + 3) (.ref q :: st)) : V p l e R s m args below meth c nL g X Q S cells slots lv pc st := by
  intro H locs ls hw0 hS0 hl
  refine va_new F.1.1 F.1.2.1 (h_lays F.2.1) hin ty hty F.1.2.2.2.1 (hk_word F.2.1 hcl args) (hk_word F.2.1 hinst args) (hk_word F.2.1 hini args) F.2.1.1 hw0.1 hw0.2 hS0 (hA_new F.2.2.2) hc hfs hf.1 hf.2 d (fun q H1 hP1 hD1 hS1 => ?_)
  obtain ⟨h1, h2⟩ := hw_new (T := nO S ci q) hD1 rfl (hE1 q) (fun b hb => hE_nO S ci q hb)
  rw [h1] at hP1 hD1
  exact kk q h2 H1 locs ls ⟨hP1, hD1⟩ hS1 hl
theorem h_cy {cy : Nat → ClassId} {D : va_G} {k : Nat} {ty : FieldType} {cA : ClassId} (hK : va_K D vwCl (hTY cy) s) (hk : (hTY cy)[k]? = some (cy k, ty)) (hK2 : va_K D vwCl (hTY cy ++ [(cA, ty)]) s) : cA = cy k := by
  have h1 := (hK.2 k _ hk).2
  have h2 := (hK2.2 6 (cA, ty) rfl).2
  cases ty with
  | object C =>
    obtain ⟨_, _, _, _, _, e1⟩ := h1
    obtain ⟨_, _, _, _, _, e2⟩ := h2
    exact Option.some.inj (e2.symm.trans e1)
  | _ => exact Option.some.inj (Eq.trans (Eq.symm h2) h1)
theorem q_anewG {kd t0 : Nat} (F : hF p l s m args meth c cc nL Ts own g) {n : Int32} {N' : Nat} (hcl : Cond.classLink own index C ∈ wsL_law) (hAO : C ∈ [RX0, RX1, RX2, RX3]) (ht : (hTY g.2.1)[t0]? = some (g.2.1 t0, .object C)) (hn : ¬ n < 0) (hN : n.toNatClampNeg = N') (hb : N' * 4 ≤ 536870912) (hE1 : ∀ q, hE g.2.1 (nA S kd q N') q = .inl (g.2.1 t0, N', .inr (.inr (.inr (.inr (fun _ => none)))))) (hf : cells + 1 ≤ R.cells ∧ slots + N' ≤ R.slots) (d : decode cc pc = .ok (.anewarray index, 3))
    (kk : ∀ q : Nat, q ∉ sL S → V p l e R s m args below meth c nL g X Q (nA S kd q N') (cells + 1) (slots + N') lv (pc + 3) (.ref q :: st)) : V p l e R s m args below meth c nL g X Q S cells slots lv pc (.int n :: st) := by
  intro H locs ls hw0 hS0 hl
  refine va_newq F.1.1 F.1.2.1 F.1.2.2.2.1 (hk_word F.2.1 hcl args) (F.2.1.2.2.2.2.2.2.1 C hAO) F.2.1.1 hw0.1 hw0.2 hS0 (hA_new F.2.2.2) hn hN hb hf.1 hf.2 d (fun q cA H1 hK1 hP1 hD1 hS1 => ?_)
  have hcA : cA = g.2.1 t0 := h_cy F.2.1.1 ht hK1
  subst hcA
  obtain ⟨h1, h2⟩ := hw_new (T := nA S kd q N') hD1 rfl (hE1 q) (fun b hb => hE_nA S kd q N' hb)
  rw [h1] at hP1 hD1
  exact kk q h2 H1 locs ls ⟨hP1, hD1⟩ hS1 hl
theorem q_newaG {kd t0 : Nat} {atype : ArrayType} {ty : FieldType} (F : hF p l s m args meth c cc nL Ts own g) {n : Int32} {N' : Nat} (harr : Cond.arrayClass (newarray.typeOf atype) ∈ wsL_law) (hty : newarray.typeOf atype = ty) (ht : (hTY g.2.1)[t0]? = some (g.2.1 t0, ty)) (ha : ∀ cA : ClassId, vp_cell cA (N', .inl (fun _ => 0)) = arrV cA N' (fun _ => defaultValue ty)) (hn : ¬ n < 0) (hN : n.toNatClampNeg = N') (hb : N' * componentBytes ty ≤ 536870912) (hE1 : ∀ q, hE g.2.1 (nA S kd q N') q = .inl (g.2.1 t0, N', .inl (fun _ => 0))) (hf : cells + 1 ≤ R.cells ∧ slots + N' ≤ R.slots) (d : decode cc pc = .ok (.newarray atype, 2))
    (kk : ∀ q : Nat, q ∉ sL S → V p l e R s m args below meth c nL g X Q (nA S kd q N') (cells + 1) (slots + N') lv (pc + 2) (.ref q :: st)) : V p l e R s m args below meth c nL g X Q S cells slots lv pc (.int n :: st) := by
  intro H locs ls hw0 hS0 hl
  refine va_newa F.1.1 F.1.2.1 (hk_word F.2.1 harr args) hty F.2.1.1 hw0.1 hw0.2 hS0 (hA_new F.2.2.2) ha hn hN hb hf.1 hf.2 d (fun q cA H1 hK1 hP1 hD1 hS1 => ?_)
  have hcA : cA = g.2.1 t0 := h_cy F.2.1.1 ht hK1
  subst hcA
  obtain ⟨h1, h2⟩ := hw_new (T := nA S kd q N') hD1 rfl (hE1 q) (fun b hb => hE_nA S kd q N' hb)
  rw [h1] at hP1 hD1
  exact kk q h2 H1 locs ls ⟨hP1, hD1⟩ hS1 hl
theorem h_idx {i : Int32} {j N : Nat} (hij : i = nI j) (hj : j < N) (hb : N < 2 ^ 31) : vp_in i N ∧ i.toNatClampNeg = j := by
  subst hij
  exact ⟨vp_in_nI hj hb, nI_clamp (by omega)⟩
theorem q_iald (F : hF p l s m args meth c cc nL Ts own g) {i : Int32} {j N : Nat} (ho : isO S a 6) (hN : sN S a = N) (hij : i = nI j) (hj : j < N) (hb : N < 2 ^ 31) (d : decode cc pc = .ok (.iaload, 1))
    (kk : V p l e R s m args below meth c nL g X Q S cells slots lv (pc + 1) (.int (sA S a j) :: st)) : V p l e R s m args below meth c nL g X Q S cells slots lv pc (.int i :: .ref a :: st) := by
  intro H locs ls hw0 hS0 hl
  subst hN
  obtain ⟨i0, -, hi⟩ := hw_get (g := g) (X := X) ho
  obtain ⟨h1, h2⟩ := h_idx hij hj hb
  refine va_iald F.1.1 F.1.2.1 F.2.1.1 hw0.1 i0 0 hi rfl h1 d ?_
  rw [h2]
  exact kk H locs ls hw0 hS0 hl
theorem hE_uA_self {cy : Nat → ClassId} {n t : Nat} {x : Int32} {j : Nat} (hk : sK S a = t) (h : ∀ T : hS, hC cy T t a = .inl (cy n, sN T a, .inl (sA T a))) : hE cy (uA S a j x) a = .inl (cy n, sN S a, .inl (upd (sA S a) j x)) := by
  rw [hE_k (show sK (uA S a j x) a = t from hk), h]
  show (Sum.inl (cy n, sN S a, Sum.inl (u2 (sA S) a j x a)) : va_E) = _
  rw [u2_row]
  rfl
theorem q_iast (F : hF p l s m args meth c cc nL Ts own g) {i x : Int32} {j N : Nat} (ho : isO S a 6) (hN : sN S a = N) (hij : i = nI j) (hj : j < N) (hb : N < 2 ^ 31) (d : decode cc pc = .ok (.iastore, 1))
    (kk : V p l e R s m args below meth c nL g X Q (uA S a j x) cells slots lv (pc + 1) st) : V p l e R s m args below meth c nL g X Q S cells slots lv pc (.int x :: .int i :: .ref a :: st) := by
  intro H locs ls hw0 hS0 hl
  subst hN
  obtain ⟨i0, hi0, hi⟩ := hw_get (g := g) (X := X) ho
  obtain ⟨h1, h2⟩ := h_idx hij hj hb
  have hset := hw_set (g := g) (X := X) (T := uA S a j x) hw0.2 ho.1 hi0 rfl (hE_uA_self (n := 0) ho.2 (fun _ => rfl)) (fun b hb => hE_uA S a j x hb)
  refine va_iast F.1.1 F.1.2.1 F.2.1.1 hw0.1 hw0.2 hS0 i0 0 hi rfl h1 d (fun H1 locs1 hP1 hD1 hS1 => ?_)
  rw [h2] at hP1 hD1
  rw [hset] at hP1 hD1
  exact kk H1 locs1 ls ⟨hP1, hD1⟩ hS1 hl
theorem q_aald_c (F : hF p l s m args meth c cc nL Ts own g) {i : Int32} {j N b : Nat} (ho : isO S a 8) (hN : sN S a = N) (hij : i = nI j) (hj : j < N) (hb : N < 2 ^ 31) (hr : sB S a j = some b) (d : decode cc pc = .ok (.aaload, 1))
    (kk : V p l e R s m args below meth c nL g X Q S cells slots lv (pc + 1) (.ref b :: st)) : V p l e R s m args below meth c nL g X Q S cells slots lv pc (.int i :: .ref a :: st) := by
  intro H locs ls hw0 hS0 hl
  subst hN
  obtain ⟨i0, -, hi⟩ := hw_get (g := g) (X := X) ho
  obtain ⟨h1, h2⟩ := h_idx hij hj hb
  refine va_aldq F.1.1 F.1.2.1 F.2.1.1 hw0.1 i0 2 hi rfl h1 d ?_
  rw [h2, hr]
  exact kk H locs ls hw0 hS0 hl
theorem q_aast_c (F : hF p l s m args meth c cc nL Ts own g) {i : Int32} {j N v : Nat} (ho : isO S a 8) (hN : sN S a = N) (hij : i = nI j) (hj : j < N) (hb : N < 2 ^ 31) (hv : isO S v 0) (d : decode cc pc = .ok (.aastore, 1))
    (kk : V p l e R s m args below meth c nL g X Q (uB S a j (some v)) cells slots lv (pc + 1) st) : V p l e R s m args below meth c nL g X Q S cells slots lv pc (.ref v :: .int i :: .ref a :: st) := by
  intro H locs ls hw0 hS0 hl
  subst hN
  obtain ⟨i0, hi0, hi⟩ := hw_get (g := g) (X := X) ho
  obtain ⟨i1, -, hv1⟩ := hw_get (g := g) (X := X) hv
  obtain ⟨h1, h2⟩ := h_idx hij hj hb
  have he : hE g.2.1 (uB S a j (some v)) a = .inl (g.2.1 2, sN S a, .inr (.inr (.inr (.inr (va_up (sB S a) j (some v)))))) := by
    rw [hE_k (show sK (uB S a j (some v)) a = 8 from ho.2)]
    show (Sum.inl (g.2.1 2, sN S a, Sum.inr (Sum.inr (Sum.inr (Sum.inr (u2 (sB S) a j (some v) a))))) : va_E) = _
    rw [u2_row]
  have hset := hw_set (g := g) (X := X) (T := uB S a j (some v)) hw0.2 ho.1 hi0 rfl he (fun b hb => hE_uB S a j (some v) hb)
  refine va_astq (ci := 0) (r := (RX0, TX0, 7)) F.1.1 F.1.2.1 F.2.1.1 hw0.1 hw0.2 hS0 i0 2 i1 hi rfl hv1 rfl h1 d (fun H1 locs1 hP1 hD1 hS1 => ?_)
  rw [h2] at hP1 hD1
  rw [hset] at hP1 hD1
  exact kk H1 locs1 ls ⟨hP1, hD1⟩ hS1 hl
theorem q_aald_l (F : hF p l s m args meth c cc nL Ts own g) {i : Int32} {j N b : Nat} (ho : isO S a 9) (hN : sN S a = N) (hij : i = nI j) (hj : j < N) (hb : N < 2 ^ 31) (hr : sB S a j = some b) (d : decode cc pc = .ok (.aaload, 1))
    (kk : V p l e R s m args below meth c nL g X Q S cells slots lv (pc + 1) (.ref b :: st)) : V p l e R s m args below meth c nL g X Q S cells slots lv pc (.int i :: .ref a :: st) := by
  intro H locs ls hw0 hS0 hl
  subst hN
  obtain ⟨i0, -, hi⟩ := hw_get (g := g) (X := X) ho
  obtain ⟨h1, h2⟩ := h_idx hij hj hb
  refine va_aldq F.1.1 F.1.2.1 F.2.1.1 hw0.1 i0 3 hi rfl h1 d ?_
  rw [h2, hr]
  exact kk H locs ls hw0 hS0 hl
theorem q_aast_l (F : hF p l s m args meth c cc nL Ts own g) {i : Int32} {j N v : Nat} (ho : isO S a 9) (hN : sN S a = N) (hij : i = nI j) (hj : j < N) (hb : N < 2 ^ 31) (hv : isO S v 1) (d : decode cc pc = .ok (.aastore, 1))
    (kk : V p l e R s m args below meth c nL g X Q (uB S a j (some v)) cells slots lv (pc + 1) st) : V p l e R s m args below meth c nL g X Q S cells slots lv pc (.ref v :: .int i :: .ref a :: st) := by
  intro H locs ls hw0 hS0 hl
  subst hN
  obtain ⟨i0, hi0, hi⟩ := hw_get (g := g) (X := X) ho
  obtain ⟨i1, -, hv1⟩ := hw_get (g := g) (X := X) hv
  obtain ⟨h1, h2⟩ := h_idx hij hj hb
  have he : hE g.2.1 (uB S a j (some v)) a = .inl (g.2.1 3, sN S a, .inr (.inr (.inr (.inr (va_up (sB S a) j (some v)))))) := by
    rw [hE_k (show sK (uB S a j (some v)) a = 9 from ho.2)]
    show (Sum.inl (g.2.1 3, sN S a, Sum.inr (Sum.inr (Sum.inr (Sum.inr (u2 (sB S) a j (some v) a))))) : va_E) = _
    rw [u2_row]
  have hset := hw_set (g := g) (X := X) (T := uB S a j (some v)) hw0.2 ho.1 hi0 rfl he (fun b hb => hE_uB S a j (some v) hb)
  refine va_astq (ci := 1) (r := (RX1, TX1, 10)) F.1.1 F.1.2.1 F.2.1.1 hw0.1 hw0.2 hS0 i0 3 i1 hi rfl hv1 rfl h1 d (fun H1 locs1 hP1 hD1 hS1 => ?_)
  rw [h2] at hP1 hD1
  rw [hset] at hP1 hD1
  exact kk H1 locs1 ls ⟨hP1, hD1⟩ hS1 hl
theorem q_aald_p (F : hF p l s m args meth c cc nL Ts own g) {i : Int32} {j N b : Nat} (ho : isO S a 10) (hN : sN S a = N) (hij : i = nI j) (hj : j < N) (hb : N < 2 ^ 31) (hr : sB S a j = some b) (d : decode cc pc = .ok (.aaload, 1))
    (kk : V p l e R s m args below meth c nL g X Q S cells slots lv (pc + 1) (.ref b :: st)) : V p l e R s m args below meth c nL g X Q S cells slots lv pc (.int i :: .ref a :: st) := by
  intro H locs ls hw0 hS0 hl
  subst hN
  obtain ⟨i0, -, hi⟩ := hw_get (g := g) (X := X) ho
  obtain ⟨h1, h2⟩ := h_idx hij hj hb
  refine va_aldq F.1.1 F.1.2.1 F.2.1.1 hw0.1 i0 4 hi rfl h1 d ?_
  rw [h2, hr]
  exact kk H locs ls hw0 hS0 hl
theorem q_aast_p (F : hF p l s m args meth c cc nL Ts own g) {i : Int32} {j N v : Nat} (ho : isO S a 10) (hN : sN S a = N) (hij : i = nI j) (hj : j < N) (hb : N < 2 ^ 31) (hv : isO S v 2) (d : decode cc pc = .ok (.aastore, 1))
    (kk : V p l e R s m args below meth c nL g X Q (uB S a j (some v)) cells slots lv (pc + 1) st) : V p l e R s m args below meth c nL g X Q S cells slots lv pc (.ref v :: .int i :: .ref a :: st) := by
  intro H locs ls hw0 hS0 hl
  subst hN
  obtain ⟨i0, hi0, hi⟩ := hw_get (g := g) (X := X) ho
  obtain ⟨i1, -, hv1⟩ := hw_get (g := g) (X := X) hv
  obtain ⟨h1, h2⟩ := h_idx hij hj hb
  have he : hE g.2.1 (uB S a j (some v)) a = .inl (g.2.1 4, sN S a, .inr (.inr (.inr (.inr (va_up (sB S a) j (some v)))))) := by
    rw [hE_k (show sK (uB S a j (some v)) a = 10 from ho.2)]
    show (Sum.inl (g.2.1 4, sN S a, Sum.inr (Sum.inr (Sum.inr (Sum.inr (u2 (sB S) a j (some v) a))))) : va_E) = _
    rw [u2_row]
  have hset := hw_set (g := g) (X := X) (T := uB S a j (some v)) hw0.2 ho.1 hi0 rfl he (fun b hb => hE_uB S a j (some v) hb)
  refine va_astq (ci := 2) (r := (RX2, TX2, 4)) F.1.1 F.1.2.1 F.2.1.1 hw0.1 hw0.2 hS0 i0 4 i1 hi rfl hv1 rfl h1 d (fun H1 locs1 hP1 hD1 hS1 => ?_)
  rw [h2] at hP1 hD1
  rw [hset] at hP1 hD1
  exact kk H1 locs1 ls ⟨hP1, hD1⟩ hS1 hl
theorem q_aald_s (F : hF p l s m args meth c cc nL Ts own g) {i : Int32} {j N b : Nat} (ho : isO S a 11) (hN : sN S a = N) (hij : i = nI j) (hj : j < N) (hb : N < 2 ^ 31) (hr : sB S a j = some b) (d : decode cc pc = .ok (.aaload, 1))
    (kk : V p l e R s m args below meth c nL g X Q S cells slots lv (pc + 1) (.ref b :: st)) : V p l e R s m args below meth c nL g X Q S cells slots lv pc (.int i :: .ref a :: st) := by
  intro H locs ls hw0 hS0 hl
  subst hN
  obtain ⟨i0, -, hi⟩ := hw_get (g := g) (X := X) ho
  obtain ⟨h1, h2⟩ := h_idx hij hj hb
  refine va_aldq F.1.1 F.1.2.1 F.2.1.1 hw0.1 i0 5 hi rfl h1 d ?_
  rw [h2, hr]
  exact kk H locs ls hw0 hS0 hl
theorem q_aast_s (F : hF p l s m args meth c cc nL Ts own g) {i : Int32} {j N v : Nat} (ho : isO S a 11) (hN : sN S a = N) (hij : i = nI j) (hj : j < N) (hb : N < 2 ^ 31) (hv : isO S v 3) (d : decode cc pc = .ok (.aastore, 1))
    (kk : V p l e R s m args below meth c nL g X Q (uB S a j (some v)) cells slots lv (pc + 1) st) : V p l e R s m args below meth c nL g X Q S cells slots lv pc (.ref v :: .int i :: .ref a :: st) := by
  intro H locs ls hw0 hS0 hl
  subst hN
  obtain ⟨i0, hi0, hi⟩ := hw_get (g := g) (X := X) ho
  obtain ⟨i1, -, hv1⟩ := hw_get (g := g) (X := X) hv
  obtain ⟨h1, h2⟩ := h_idx hij hj hb
  have he : hE g.2.1 (uB S a j (some v)) a = .inl (g.2.1 5, sN S a, .inr (.inr (.inr (.inr (va_up (sB S a) j (some v)))))) := by
    rw [hE_k (show sK (uB S a j (some v)) a = 11 from ho.2)]
    show (Sum.inl (g.2.1 5, sN S a, Sum.inr (Sum.inr (Sum.inr (Sum.inr (u2 (sB S) a j (some v) a))))) : va_E) = _
    rw [u2_row]
  have hset := hw_set (g := g) (X := X) (T := uB S a j (some v)) hw0.2 ho.1 hi0 rfl he (fun b hb => hE_uB S a j (some v) hb)
  refine va_astq (ci := 3) (r := (RX3, TX3, 3)) F.1.1 F.1.2.1 F.2.1.1 hw0.1 hw0.2 hS0 i0 5 i1 hi rfl hv1 rfl h1 d (fun H1 locs1 hP1 hD1 hS1 => ?_)
  rw [h2] at hP1 hD1
  rw [hset] at hP1 hD1
  exact kk H1 locs1 ls ⟨hP1, hD1⟩ hS1 hl
end HHeap


