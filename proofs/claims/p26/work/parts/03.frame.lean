/-! THE POOL: every object and array of class and model by its address; int fields by number, reference fields by number, rows -/
abbrev hS : Type := List Nat × (Nat → Nat) × (Nat → Nat → Int32) × (Nat → Nat → Option Nat) × (Nat → Nat) × (Nat → Nat → Int32) × (Nat → Nat → Option Nat)
def sL (S : hS) : List Nat := S.1
def sK (S : hS) : Nat → Nat := S.2.1
def sF (S : hS) : Nat → Nat → Int32 := S.2.2.1
def sR (S : hS) : Nat → Nat → Option Nat := S.2.2.2.1
def sN (S : hS) : Nat → Nat := S.2.2.2.2.1
def sA (S : hS) : Nat → Nat → Int32 := S.2.2.2.2.2.1
def sB (S : hS) : Nat → Nat → Option Nat := S.2.2.2.2.2.2
def u2 {α : Type} (f : Nat → Nat → α) (i j : Nat) (v : α) : Nat → Nat → α := fun x y => if x = i ∧ y = j then v else f x y
def uF (S : hS) (k a : Nat) (v : Int32) : hS := (sL S, sK S, u2 (sF S) k a v, sR S, sN S, sA S, sB S)
def uR (S : hS) (k a : Nat) (v : Option Nat) : hS := (sL S, sK S, sF S, u2 (sR S) k a v, sN S, sA S, sB S)
def uA (S : hS) (a j : Nat) (v : Int32) : hS := (sL S, sK S, sF S, sR S, sN S, u2 (sA S) a j v, sB S)
def uB (S : hS) (a j : Nat) (v : Option Nat) : hS := (sL S, sK S, sF S, sR S, sN S, sA S, u2 (sB S) a j v)
def nO (S : hS) (k q : Nat) : hS := (sL S ++ [q], va_up (sK S) q k, fun x => va_up (sF S x) q 0, fun x => va_up (sR S x) q none, sN S, sA S, sB S)
def nA (S : hS) (k q n : Nat) : hS := (sL S ++ [q], va_up (sK S) q k, sF S, sR S, va_up (sN S) q n, va_up (sA S) q (fun _ => 0), va_up (sB S) q (fun _ => none))
theorem u2_at {α : Type} (f : Nat → Nat → α) (i j : Nat) (v : α) (x y : Nat) : u2 f i j v x y = if x = i ∧ y = j then v else f x y := rfl
theorem u2_row {α : Type} (f : Nat → Nat → α) (i j : Nat) (v : α) : u2 f i j v i = va_up (f i) j v := by funext y; simp [u2, va_up]
theorem u2_off {α : Type} (f : Nat → Nat → α) {i x : Nat} (j : Nat) (v : α) (h : x ≠ i) : u2 f i j v x = f x := by funext y; simp [u2, h]
theorem sL_uF (S : hS) (k a : Nat) (v : Int32) : sL (uF S k a v) = sL S := rfl
theorem sK_uF (S : hS) (k a : Nat) (v : Int32) : sK (uF S k a v) = sK S := rfl
theorem sF_uF (S : hS) (k a : Nat) (v : Int32) (x b : Nat) : sF (uF S k a v) x b = if x = k ∧ b = a then v else sF S x b := rfl
theorem sR_uF (S : hS) (k a : Nat) (v : Int32) : sR (uF S k a v) = sR S := rfl
theorem sN_uF (S : hS) (k a : Nat) (v : Int32) : sN (uF S k a v) = sN S := rfl
theorem sA_uF (S : hS) (k a : Nat) (v : Int32) : sA (uF S k a v) = sA S := rfl
theorem sB_uF (S : hS) (k a : Nat) (v : Int32) : sB (uF S k a v) = sB S := rfl
theorem sL_uR (S : hS) (k a : Nat) (v : Option Nat) : sL (uR S k a v) = sL S := rfl
theorem sK_uR (S : hS) (k a : Nat) (v : Option Nat) : sK (uR S k a v) = sK S := rfl
theorem sF_uR (S : hS) (k a : Nat) (v : Option Nat) : sF (uR S k a v) = sF S := rfl
theorem sR_uR (S : hS) (k a : Nat) (v : Option Nat) (x b : Nat) : sR (uR S k a v) x b = if x = k ∧ b = a then v else sR S x b := rfl
theorem sN_uR (S : hS) (k a : Nat) (v : Option Nat) : sN (uR S k a v) = sN S := rfl
theorem sA_uR (S : hS) (k a : Nat) (v : Option Nat) : sA (uR S k a v) = sA S := rfl
theorem sB_uR (S : hS) (k a : Nat) (v : Option Nat) : sB (uR S k a v) = sB S := rfl
theorem sL_uA (S : hS) (k a : Nat) (v : Int32) : sL (uA S k a v) = sL S := rfl
theorem sK_uA (S : hS) (k a : Nat) (v : Int32) : sK (uA S k a v) = sK S := rfl
theorem sF_uA (S : hS) (k a : Nat) (v : Int32) : sF (uA S k a v) = sF S := rfl
theorem sR_uA (S : hS) (k a : Nat) (v : Int32) : sR (uA S k a v) = sR S := rfl
theorem sN_uA (S : hS) (k a : Nat) (v : Int32) : sN (uA S k a v) = sN S := rfl
theorem sA_uA (S : hS) (k a : Nat) (v : Int32) (x b : Nat) : sA (uA S k a v) x b = if x = k ∧ b = a then v else sA S x b := rfl
theorem sB_uA (S : hS) (k a : Nat) (v : Int32) : sB (uA S k a v) = sB S := rfl
theorem sL_uB (S : hS) (k a : Nat) (v : Option Nat) : sL (uB S k a v) = sL S := rfl
theorem sK_uB (S : hS) (k a : Nat) (v : Option Nat) : sK (uB S k a v) = sK S := rfl
theorem sF_uB (S : hS) (k a : Nat) (v : Option Nat) : sF (uB S k a v) = sF S := rfl
theorem sR_uB (S : hS) (k a : Nat) (v : Option Nat) : sR (uB S k a v) = sR S := rfl
theorem sN_uB (S : hS) (k a : Nat) (v : Option Nat) : sN (uB S k a v) = sN S := rfl
theorem sA_uB (S : hS) (k a : Nat) (v : Option Nat) : sA (uB S k a v) = sA S := rfl
theorem sB_uB (S : hS) (k a : Nat) (v : Option Nat) (x b : Nat) : sB (uB S k a v) x b = if x = k ∧ b = a then v else sB S x b := rfl
theorem sL_nO (S : hS) (k q : Nat) : sL (nO S k q) = sL S ++ [q] := rfl
theorem sK_nO (S : hS) (k q : Nat) (b : Nat) : sK (nO S k q) b = if b = q then k else sK S b := rfl
theorem sF_nO (S : hS) (k q : Nat) (x b : Nat) : sF (nO S k q) x b = if b = q then 0 else sF S x b := rfl
theorem sR_nO (S : hS) (k q : Nat) (x b : Nat) : sR (nO S k q) x b = if b = q then none else sR S x b := rfl
theorem sN_nO (S : hS) (k q : Nat) : sN (nO S k q) = sN S := rfl
theorem sA_nO (S : hS) (k q : Nat) : sA (nO S k q) = sA S := rfl
theorem sB_nO (S : hS) (k q : Nat) : sB (nO S k q) = sB S := rfl
theorem sL_nA (S : hS) (k q n : Nat) : sL (nA S k q n) = sL S ++ [q] := rfl
theorem sK_nA (S : hS) (k q n : Nat) (b : Nat) : sK (nA S k q n) b = if b = q then k else sK S b := rfl
theorem sF_nA (S : hS) (k q n : Nat) : sF (nA S k q n) = sF S := rfl
theorem sR_nA (S : hS) (k q n : Nat) : sR (nA S k q n) = sR S := rfl
theorem sN_nA (S : hS) (k q n : Nat) (b : Nat) : sN (nA S k q n) b = if b = q then n else sN S b := rfl
theorem sA_nA (S : hS) (k q n : Nat) (b j : Nat) : sA (nA S k q n) b j = if b = q then 0 else sA S b j := by
  show va_up (sA S) q (fun _ => 0) b j = _
  unfold va_up
  by_cases h : b = q <;> simp [h]
theorem sB_nA (S : hS) (k q n : Nat) (b j : Nat) : sB (nA S k q n) b j = if b = q then none else sB S b j := by
  show va_up (sB S) q (fun _ => none) b j = _
  unfold va_up
  by_cases h : b = q <;> simp [h]
/-- an address of a kind -/
def isO (S : hS) (a k : Nat) : Prop := a ∈ sL S ∧ sK S a = k
/-- what a cell of a kind holds -/
def hC (cy : Nat → ClassId) (S : hS) (k a : Nat) : va_E := match k with
  | 0 => .inr (0, [.int (sF S 0 a), .int (sF S 1 a), .int (sF S 2 a), .int (sF S 3 a), .int (sF S 4 a), .int (sF S 5 a), .int (sF S 6 a)])
  | 1 => .inr (1, [.int (sF S 10 a), .int (sF S 11 a), .int (sF S 12 a), .int (sF S 13 a), va_rf (sR S 14 a), .int (sF S 15 a), .int (sF S 16 a), .int (sF S 17 a), .int (sF S 18 a), .int (sF S 19 a)])
  | 2 => .inr (2, [.int (sF S 20 a), .int (sF S 21 a), .int (sF S 22 a), .int (sF S 23 a)])
  | 3 => .inr (3, [.int (sF S 30 a), .int (sF S 31 a), .int (sF S 32 a)])
  | 4 => .inr (4, [va_rf (sR S 40 a), .int (sF S 41 a), va_rf (sR S 42 a), .int (sF S 43 a), va_rf (sR S 44 a), .int (sF S 45 a), .int (sF S 46 a), .int (sF S 47 a), .int (sF S 48 a), .int (sF S 49 a), .int (sF S 50 a), .int (sF S 51 a)])
  | 6 => .inl (cy 0, sN S a, .inl (sA S a))
  | 7 => .inl (cy 1, sN S a, .inl (sA S a))
  | 8 => .inl (cy 2, sN S a, .inr (.inr (.inr (.inr (sB S a)))))
  | 9 => .inl (cy 3, sN S a, .inr (.inr (.inr (.inr (sB S a)))))
  | 10 => .inl (cy 4, sN S a, .inr (.inr (.inr (.inr (sB S a)))))
  | _ => .inl (cy 5, sN S a, .inr (.inr (.inr (.inr (sB S a)))))
def hE (cy : Nat → ClassId) (S : hS) (a : Nat) : va_E := hC cy S (sK S a) a
theorem hC_congr {cy : Nat → ClassId} {S T : hS} {k a : Nat} (h1 : ∀ x, sF T x a = sF S x a) (h2 : ∀ x, sR T x a = sR S x a) (h3 : sN T a = sN S a) (h4 : sA T a = sA S a) (h5 : sB T a = sB S a) : hC cy T k a = hC cy S k a := by
  unfold hC
  simp only [h1, h2, h3, h4, h5]
def hTY (cy : Nat → ClassId) : List (ClassId × FieldType) := [(cy 0, .int), (cy 1, .int), (cy 2, .object RX0), (cy 3, .object RX1), (cy 4, .object RX2), (cy 5, .object RX3)]
abbrev hG : Type := va_G × (Nat → ClassId) × Nat
def hA (g : hG) : Nat → Prop := fun q => g.2.2 ≤ q
def hws (g : hG) (X : va_W) (S : hS) : va_W := X ++ va_pl (sL S) (hE g.2.1 S)
/-- the world: some cells X of others, and the pool -/
def hw (g : hG) (X : va_W) (S : hS) (H : Heap) : Prop := va_P g.1 vwCl (hws g X S) H ∧ va_D (hA g) (hws g X S)
theorem hE_of {g : hG} {S : hS} {a k : Nat} (h : isO S a k) : hE g.2.1 S a = hC g.2.1 S k a := by unfold hE; rw [h.2]
theorem hw_get {g : hG} {X : va_W} {S : hS} {a k : Nat} (h : isO S a k) : ∃ i : Nat, (hws g X S)[i]? = some (a, hE g.2.1 S a) ∧ (hws g X S)[i]? = some (a, hC g.2.1 S k a) := by
  obtain ⟨i, hi⟩ := va_pl_get (X := X) (f := hE g.2.1 S) h.1
  exact ⟨i, hi, by rw [← hE_of h]; exact hi⟩
theorem hw_set {g : hG} {X : va_W} {S T : hS} {A : Nat → Prop} {a i : Nat} {e : va_E} (hD : va_D A (hws g X S)) (ha : a ∈ sL S) (hi : (hws g X S)[i]? = some (a, hE g.2.1 S a)) (hL : sL T = sL S) (he : hE g.2.1 T a = e) (ho : ∀ b, b ≠ a → hE g.2.1 T b = hE g.2.1 S b) : (hws g X S).set i (a, e) = hws g X T := by
  unfold hws at *
  rw [va_pl_set hD ha hi, hL]
  refine congrArg (fun l => X ++ l) (va_pl_congr fun b => ?_)
  by_cases hb : b = a
  · subst hb
    rw [va_up_self, he]
  · rw [va_up_ne _ _ hb, ho b hb]
theorem hw_new {g : hG} {X : va_W} {S T : hS} {A : Nat → Prop} {q : Nat} {e : va_E} (hD : va_D A (hws g X S ++ [(q, e)])) (hL : sL T = sL S ++ [q]) (he : hE g.2.1 T q = e) (ho : ∀ b, b ≠ q → hE g.2.1 T b = hE g.2.1 S b) : hws g X S ++ [(q, e)] = hws g X T ∧ q ∉ sL S := by
  have hq : q ∉ sL S := va_pl_fresh2 (X := X) (f := hE g.2.1 S) (e := e) hD
  refine ⟨?_, hq⟩
  unfold hws
  rw [List.append_assoc, va_pl_push hq, hL]
  refine congrArg (fun l => X ++ l) (va_pl_congr fun b => ?_)
  by_cases hb : b = q
  · subst hb
    rw [va_up_self, he]
  · rw [va_up_ne _ _ hb, ho b hb]
/-! WHAT STAYS BESIDE THE HEAP: the classes, the tables' words, the strings, what the exceptions need -/
def hEx : List String := ["java/lang/IllegalArgumentException", "java/lang/IllegalStateException", "java/lang/IndexOutOfBoundsException"]
def hNF : List (String × Nat × String × String × String) := [("HostKeyring", 155, "HostKeyring$Line", "mark", "I"), ("HostKeyring", 65, "HostKeyring$Line", "key", "I"), ("HostKeyring", 158, "HostKeyring$Line", "seen", "I"), ("HostKeyring", 161, "HostKeyring$Line", "end", "I"), ("HostKeyring$Line", 64, "HostKeyring$Pattern", "isDenied", "Z"), ("HostKeyring", 219, "HostKeyring$Certificate", "authority", "I"), ("HostKeyring", 200, "HostKeyring$Certificate", "key", "I"), ("HostKeyring", 225, "HostKeyring$Certificate", "name", "I"), ("HostKeyring", 222, "HostKeyring$Certificate", "places", "I"), ("HostKeyring", 245, "HostKeyring$Certificate", "serial", "I"), ("HostKeyring", 232, "HostKeyring$Certificate", "first", "I"), ("HostKeyring", 235, "HostKeyring$Certificate", "last", "I")]
def hNM : List (String × Nat × MethodName) := [("HostKeyring", 34, yX1_init), ("HostKeyring$Pattern", 23, yX4_isSameAt)]
