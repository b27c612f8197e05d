/-! WHAT THE METHODS ANSWER. The state is told by the model's own numbers: sc its scalars, M its rows (5 keys, 6 marks, 7 seen, 8 ends, 9 salts, 10 hashes, 11 hash ports, 12 sizes, 13 names, 14 places, 15 ports, 16 denied; 18 authorities, 19 keys, 20 names, 21 places, 22 serials, 23 firsts, 24 lasts of certificates; 26, 27, 28 spans) -/
def anyN (f : Nat → Bool) : Nat → Bool
  | 0 => false
  | k + 1 => anyN f k || f k
theorem anyN_mono {f : Nat → Bool} {k n : Nat} (h : anyN f k = true) (hkn : k ≤ n) : anyN f n = true := by
  induction n with
  | zero =>
    have : k = 0 := by omega
    subst this
    exact h
  | succ n ih =>
    by_cases hk : k = n + 1
    · subst hk; exact h
    · unfold anyN
      rw [ih (by omega)]
      rfl
theorem anyN_iff {f : Nat → Bool} {n : Nat} : anyN f n = true ↔ ∃ k, k < n ∧ f k = true := by
  induction n with
  | zero => simp [anyN]
  | succ n ih =>
    unfold anyN
    rw [Bool.or_eq_true, ih]
    constructor
    · rintro (⟨k, h1, h2⟩ | h)
      · exact ⟨k, by omega, h2⟩
      · exact ⟨n, by omega, h⟩
    · rintro ⟨k, h1, h2⟩
      by_cases hk : k = n
      · subst hk; exact Or.inr h2
      · exact Or.inl ⟨k, by omega, h2⟩
theorem anyN_congr {f f' : Nat → Bool} {n : Nat} (h : ∀ k, k < n → f k = f' k) : anyN f n = anyN f' n := by
  induction n with
  | zero => rfl
  | succ n ih =>
    unfold anyN
    rw [ih (fun k hk => h k (by omega)), h n (by omega)]
theorem anyN_false {f : Nat → Bool} {n : Nat} : anyN f n = false ↔ ∀ k, k < n → f k = false := by
  rw [← Bool.not_eq_true, anyN_iff]
  constructor
  · intro h k hk
    cases hf : f k with
    | false => rfl
    | true => exact absurd ⟨k, hk, hf⟩ h
  · rintro h ⟨k, hk, hf⟩
    rw [h k hk] at hf
    cases hf
def cntN (f : Nat → Bool) : Nat → Int32
  | 0 => 0
  | k + 1 => cntN f k + b2 (f k)
/-- the place that a loop down to 0 stands at: k - 1 -/
def dN : Nat → Int32
  | 0 => -1
  | k + 1 => nI k
theorem dN_dec (k : Nat) : dN (k + 1) + Int32.ofInt (-1) = dN k := by
  cases k with
  | zero => rfl
  | succ k =>
    have h := pk_m1 k
    exact h
theorem dN_0 : dN 0 < 0 := by decide
theorem dN_s {k : Nat} (h : k < 2 ^ 31) : ¬ dN (k + 1) < 0 := nI_pos h
def lk (set : Int32) : Nat → Int32 → Int32 → Bool
  | 0, _, _ => true
  | n + 1, one, two => (decide (((set >>> (nI n &&& 31)) &&& 1) = 0) || decide (one % 10 = two % 10)) && lk set n (one / 10) (two / 10)
def like (set one two : Int32) : Bool := lk set 4 one two
theorem and1 (x : Int32) : (x &&& 1) = 0 ∨ (x &&& 1) = 1 := by
  obtain ⟨j, hj, h⟩ := pk_andE x (m := 1) 1 (by decide)
  have : j = 0 ∨ j = 1 := by omega
  rcases this with rfl | rfl
  · exact Or.inl h
  · exact Or.inr h
theorem and1_iff (x : Int32) : (x &&& 1) = 1 ↔ ¬ (x &&& 1) = 0 := by
  rcases and1 x with h | h <;> rw [h] <;> decide
def hsh (name salt : Int32) : Int32 := (31 * name + 17 * salt + 5) % 499
def en (day e : Int32) : Bool := decide (¬ e = -1) && decide (e ≤ day)
/-- does the pattern k of line i fit; is it denied -/
def ft (M : Nat → Nat → Int32) (i : Nat) (name port : Int32) (k : Nat) : Bool := decide (M 15 (4 * i + k) = port) && like (M 14 (4 * i + k)) (M 13 (4 * i + k)) name
def dn (M : Nat → Nat → Int32) (i : Nat) (k : Nat) : Bool := decide (¬ M 16 (4 * i + k) = 0)
def mtch (f d : Nat → Bool) (n : Nat) : Bool := anyN (fun k => f k && !d k) n && !anyN (fun k => f k && d k) n
def sz (M : Nat → Nat → Int32) (i : Nat) : Nat := (M 12 i).toNatClampNeg
def mt (M : Nat → Nat → Int32) (i : Nat) (name port : Int32) : Bool := if M 9 i = -1 then mtch (ft M i name port) (dn M i) (sz M i) else decide (M 11 i = port) && decide (M 10 i = hsh name (M 9 i))
def jm (day : Int32) (M : Nat → Nat → Int32) (i : Nat) (key au : Int32) : Int32 :=
  if M 6 i = 1 ∧ (M 5 i = key ∨ M 5 i = au) then 0 else if ¬ (M 6 i = 0 ∧ en day (M 8 i) = false) then 5 else if M 5 i = key then 2 else if M 5 i % 3 = key % 3 then 3 else 4
def imin (x y : Int32) : Int32 := if y < x then y else x
def jb (day : Int32) (M : Nat → Nat → Int32) (name port key au : Int32) : Nat → Int32
  | 0 => 5
  | i + 1 => if mt M i name port then imin (jb day M name port key au i) (jm day M i key au) else jb day M name port key au i
/-- a line with a mark and a key, that has not ended or whether or not, matches -/
def ln (day : Int32) (M : Nat → Nat → Int32) (mark key : Int32) (isAny : Bool) (name port : Int32) (i : Nat) : Bool := decide (M 6 i = mark) && decide (M 5 i = key) && (isAny || !en day (M 8 i)) && mt M i name port
/-- a span that holds the certificate c -/
def sp (M : Nat → Nat → Int32) (c k : Nat) : Bool := decide (M 26 k = M 18 c) && (decide (M 27 k ≤ M 22 c) && decide (M 22 c ≤ M 28 k))
def rv (M : Nat → Nat → Int32) (ns c : Nat) : Bool := anyN (sp M c) ns
def gd (day : Int32) (M : Nat → Nat → Int32) (n ns c : Nat) (name port : Int32) : Bool :=
  like (M 21 c) (M 20 c) name && (decide (M 23 c ≤ day) && decide (day ≤ M 24 c)) && !rv M ns c && anyN (ln day M 2 (M 18 c) false name port) n
/-- the judgement by the model -/
def its (M : Nat → Nat → Int32) (i : Nat) (key : Int32) : Int32 := if M 5 i = key then 2 else if M 5 i % 3 = key % 3 then 3 else 4
def bst (day : Int32) (M : Nat → Nat → Int32) (name port key : Int32) : Nat → Int32
  | 0 => 5
  | i + 1 => if (decide (M 6 i = 0) && !en day (M 8 i) && mt M i name port) = true ∧ its M i key < bst day M name port key i then its M i key else bst day M name port key i
def jg (day : Int32) (M : Nat → Nat → Int32) (n ns : Nat) (name port key : Int32) (co : Option Nat) : Int32 :=
  if anyN (ln day M 1 key true name port) n = true ∨ (∃ c, co = some c ∧ anyN (ln day M 1 (M 18 c) true name port) n = true) then 0
  else if ∃ c, co = some c ∧ M 19 c = key ∧ gd day M n ns c name port = true then 1 else bst day M name port key n
/-- the first of n, as far as the last r are looked at -/
def fd (f : Nat → Bool) (n : Nat) : Nat → Int32
  | 0 => -1
  | r + 1 => if f (n - (r + 1)) then nI (n - (r + 1)) else fd f n r
def lo (f : Nat → Bool) : Nat → Int64
  | 0 => 0
  | i + 1 => lo f i ||| (if f i then (1 : Int64) <<< ((nI i).toInt64 &&& 63) else 0)
/-- A LINE of the class at a, with its row of patterns at pa and the patterns at pt k, is the line i of M, with n patterns -/
def lnR (S : hS) (a pa : Nat) (pt : Nat → Nat) (M : Nat → Nat → Int32) (i n : Nat) : Prop :=
  (sF S 10 a = M 6 i ∧ sF S 11 a = M 5 i ∧ sF S 12 a = M 7 i ∧ sF S 13 a = M 8 i) ∧ (sF S 15 a = nI n ∧ M 12 i = nI n ∧ n ≤ 4) ∧
  ((sF S 16 a = 1 ∧ ¬ M 9 i = -1 ∧ sF S 18 a = M 9 i ∧ sF S 17 a = M 10 i ∧ sF S 19 a = M 11 i) ∨ (sF S 16 a = 0 ∧ M 9 i = -1)) ∧
  ∀ k, k < n → sB S pa k = some (pt k) ∧ isO S (pt k) 2 ∧ sF S 20 (pt k) = M 13 (4 * i + k) ∧ sF S 21 (pt k) = M 14 (4 * i + k) ∧ sF S 22 (pt k) = M 15 (4 * i + k) ∧ sF S 23 (pt k) = M 16 (4 * i + k)
/-- .. its cells -/
def lnG (S : hS) (a pa : Nat) : Prop := isO S a 1 ∧ sR S 14 a = some pa ∧ isO S pa 10 ∧ sN S pa = 4
theorem sz_of {S : hS} {a pa : Nat} {pt : Nat → Nat} {M : Nat → Nat → Int32} {i n : Nat} (h : lnR S a pa pt M i n) : sz M i = n := by
  unfold sz
  rw [h.2.1.2.1]
  exact nI_clamp (by have := h.2.1.2.2; omega)
theorem lk_no {set one two : Int32} {n : Nat} (h1 : ((set >>> (dN (n + 1) &&& 31)) &&& 1) = 1) (h2 : ¬ one % 10 = two % 10) : lk set (n + 1) one two = false := by
  have h3 : ¬ ((set >>> (nI n &&& 31)) &&& 1) = 0 := (and1_iff _).mp h1
  unfold lk
  rw [decide_eq_false h3, decide_eq_false h2]
  rfl
theorem lk_yes0 {set one two : Int32} {n : Nat} (h1 : ¬ ((set >>> (dN (n + 1) &&& 31)) &&& 1) = 1) : lk set (n + 1) one two = lk set n (one / 10) (two / 10) := by
  have h3 : ((set >>> (nI n &&& 31)) &&& 1) = 0 := Decidable.byContradiction fun h => h1 ((and1_iff _).mpr h)
  rw [lk, decide_eq_true h3]
  rfl
theorem lk_yes1 {set one two : Int32} {n : Nat} (h2 : one % 10 = two % 10) : lk set (n + 1) one two = lk set n (one / 10) (two / 10) := by
  rw [lk, decide_eq_true h2, Bool.or_true, Bool.true_and]
