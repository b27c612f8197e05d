/-! WHAT THE METHODS ANSWER. The state is told by the model's own numbers: sc its scalars, M its rows (5 keys, 6 marks, 7 seen, 8 ends, 9 salts, 10 hashes, 11 hash ports, 12 sizes, 13 names, 14 places, 15 ports, 16 denied; 18 authorities, 19 keys, 20 names, 21 places, 22 serials, 23 firsts, 24 lasts of certificates; 26, 27, 28 spans) -/
def anyN (f : Nat → Bool) : Nat → Bool
  | 0 => false
  | k + 1 => anyN f k || f k
theorem anyN_mono {f : Nat → Bool} {k n : Nat} (h : anyN f k = true) (hkn : k ≤ n) : anyN f n = true := by
  induction n with
  | zero =>
    have : k = 0 := by omega
    subst this
    exact h
  | succ n ih =>
    by_cases hk : k = n + 1
    · subst hk; exact h
    · unfold anyN
      rw [ih (by omega)]
      rfl
theorem anyN_iff {f : Nat → Bool} {n : Nat} : anyN f n = true ↔ ∃ k, k < n ∧ f k = true := by
  induction n with
  | zero => simp [anyN]
  | succ n ih =>
    unfold anyN
    rw [Bool.or_eq_true, ih]
    constructor
    · rintro (⟨k, h1, h2⟩ | h)
      · exact ⟨k, by omega, h2⟩
      · exact ⟨n, by omega, h⟩
    · rintro ⟨k, h1, h2⟩
      by_cases hk : k = n
      · subst hk; exact Or.inr h2
      · exact Or.inl ⟨k, by omega, h2⟩
theorem anyN_congr {f f' : Nat → Bool} {n : Nat} (h : ∀ k, k < n → f k = f' k) : anyN f n = anyN f' n := by
  induction n with
  | zero => rfl
  | succ n ih =>
    unfold anyN
    rw [ih (fun k hk => h k (by omega)), h n (by omega)]
theorem anyN_false {f : Nat → Bool} {n : Nat} : anyN f n = false ↔ ∀ k, k < n → f k = false := by
  rw [← Bool.not_eq_true, anyN_iff]
  constructor
  · intro h k hk
    cases hf : f k with
    | false => rfl
    | true => exact absurd ⟨k, hk, hf⟩ h
  · rintro h ⟨k, hk, hf⟩
    rw [h k hk] at hf
    cases hf
def cntN (f : Nat → Bool) : Nat → Int32
  | 0 => 0
  | k + 1 => cntN f k + b2 (f k)
/-- the place that a loop down to 0 stands at: k - 1 -/
def dN : Nat → Int32
  | 0 => -1
  | k + 1 => nI k
theorem dN_dec (k : Nat) : dN (k + 1) + Int32.ofInt (-1) = dN k := by
  cases k with
  | zero => rfl
  | succ k =>
    have h := pk_m1 k
    exact h
theorem dN_0 : dN 0 < 0 := by decide
theorem dN_s {k : Nat} (h : k < 2 ^ 31) : ¬ dN (k + 1) < 0 := nI_pos h
def lk (set : Int32) : Nat → Int32 → Int32 → Bool
  | 0, _, _ => true
  | n + 1, one, two => (decide (((set >>> (nI n &&& 31)) &&& 1) = 0) || decide (one % 10 = two % 10)) && lk set n (one / 10) (two / 10)
def like (set one two : Int32) : Bool := lk set 4 one two
theorem and1 (x : Int32) : (x &&& 1) = 0 ∨ (x &&& 1) = 1 := by
  obtain ⟨j, hj, h⟩ := pk_andE x (m := 1) 1 (by decide)
  have : j = 0 ∨ j = 1 := by omega
  rcases this with rfl | rfl
  · exact Or.inl h
  · exact Or.inr h
theorem and1_iff (x : Int32) : (x &&& 1) = 1 ↔ ¬ (x &&& 1) = 0 := by
  rcases and1 x with h | h <;> rw [h] <;> decide
def hsh (name salt : Int32) : Int32 := (31 * name + 17 * salt + 5) % 499
def en (day e : Int32) : Bool := decide (¬ e = -1) && decide (e ≤ day)
/-- does the pattern k of line i fit; is it denied -/
def ft (M : Nat → Nat → Int32) (i : Nat) (name port : Int32) (k : Nat) : Bool := decide (M 15 (4 * i + k) = port) && like (M 14 (4 * i + k)) (M 13 (4 * i + k)) name
def dn (M : Nat → Nat → Int32) (i : Nat) (k : Nat) : Bool := decide (¬ M 16 (4 * i + k) = 0)
def mtch (f d : Nat → Bool) (n : Nat) : Bool := anyN (fun k => f k && !d k) n && !anyN (fun k => f k && d k) n
def sz (M : Nat → Nat → Int32) (i : Nat) : Nat := (M 12 i).toNatClampNeg
def mt (M : Nat → Nat → Int32) (i : Nat) (name port : Int32) : Bool := if M 9 i = -1 then mtch (ft M i name port) (dn M i) (sz M i) else decide (M 11 i = port) && decide (M 10 i = hsh name (M 9 i))
def jmF (mk ke ed day key au : Int32) : Int32 := if mk = 1 ∧ (ke = key ∨ ke = au) then 0 else if ¬ (mk = 0 ∧ en day ed = false) then 5 else if ke = key then 2 else if ke % 3 = key % 3 then 3 else 4
def jm (day : Int32) (M : Nat → Nat → Int32) (i : Nat) (key au : Int32) : Int32 := jmF (M 6 i) (M 5 i) (M 8 i) day key au
def imin (x y : Int32) : Int32 := if y < x then y else x
def jb (day : Int32) (M : Nat → Nat → Int32) (name port key au : Int32) : Nat → Int32
  | 0 => 5
  | i + 1 => if mt M i name port then imin (jb day M name port key au i) (jm day M i key au) else jb day M name port key au i
/-- a line with a mark and a key, that has not ended or whether or not, matches -/
def ln (day : Int32) (M : Nat → Nat → Int32) (mark key : Int32) (isAny : Bool) (name port : Int32) (i : Nat) : Bool := decide (M 6 i = mark) && decide (M 5 i = key) && (isAny || !en day (M 8 i)) && mt M i name port
/-- a span that holds the certificate c -/
def sp (M : Nat → Nat → Int32) (c k : Nat) : Bool := decide (M 26 k = M 18 c) && (decide (M 27 k ≤ M 22 c) && decide (M 22 c ≤ M 28 k))
def rv (M : Nat → Nat → Int32) (ns c : Nat) : Bool := anyN (sp M c) ns
def gd (day : Int32) (M : Nat → Nat → Int32) (n ns c : Nat) (name port : Int32) : Bool :=
  like (M 21 c) (M 20 c) name && (decide (M 23 c ≤ day) && decide (day ≤ M 24 c)) && !rv M ns c && anyN (ln day M 2 (M 18 c) false name port) n
/-- the judgement by the model -/
def its (M : Nat → Nat → Int32) (i : Nat) (key : Int32) : Int32 := if M 5 i = key then 2 else if M 5 i % 3 = key % 3 then 3 else 4
def bst (day : Int32) (M : Nat → Nat → Int32) (name port key : Int32) : Nat → Int32
  | 0 => 5
  | i + 1 => if (decide (M 6 i = 0) && !en day (M 8 i) && mt M i name port) = true ∧ its M i key < bst day M name port key i then its M i key else bst day M name port key i
def jg (day : Int32) (M : Nat → Nat → Int32) (n ns : Nat) (name port key : Int32) (co : Option Nat) : Int32 :=
  if anyN (ln day M 1 key true name port) n = true ∨ (∃ c, co = some c ∧ anyN (ln day M 1 (M 18 c) true name port) n = true) then 0
  else if ∃ c, co = some c ∧ M 19 c = key ∧ gd day M n ns c name port = true then 1 else bst day M name port key n
/-- the first of n, as far as the last r are looked at -/
def fd (f : Nat → Bool) (n : Nat) : Nat → Int32
  | 0 => -1
  | r + 1 => if f (n - (r + 1)) then nI (n - (r + 1)) else fd f n r
def lo (f : Nat → Bool) : Nat → Int64
  | 0 => 0
  | i + 1 => lo f i ||| (if f i then (1 : Int64) <<< ((nI i).toInt64 &&& 63) else 0)
/-- A LINE of the class at a, with its row of patterns at pa and the patterns at pt k, is the line i of M, with n patterns -/
def lnR (S : hS) (a pa : Nat) (pt : Nat → Nat) (M : Nat → Nat → Int32) (i n : Nat) : Prop :=
  (sF S 10 a = M 6 i ∧ sF S 11 a = M 5 i ∧ sF S 12 a = M 7 i ∧ sF S 13 a = M 8 i) ∧ (sF S 15 a = nI n ∧ M 12 i = nI n ∧ n ≤ 4) ∧
  ((sF S 16 a = 1 ∧ ¬ M 9 i = -1 ∧ sF S 18 a = M 9 i ∧ sF S 17 a = M 10 i ∧ sF S 19 a = M 11 i) ∨ (sF S 16 a = 0 ∧ M 9 i = -1)) ∧
  ∀ k, k < n → sB S pa k = some (pt k) ∧ isO S (pt k) 2 ∧ sF S 20 (pt k) = M 13 (4 * i + k) ∧ sF S 21 (pt k) = M 14 (4 * i + k) ∧ sF S 22 (pt k) = M 15 (4 * i + k) ∧ sF S 23 (pt k) = M 16 (4 * i + k)
/-- .. its cells -/
def lnG (S : hS) (a pa : Nat) : Prop := isO S a 1 ∧ sR S 14 a = some pa ∧ isO S pa 10 ∧ sN S pa = 4
theorem sz_of {S : hS} {a pa : Nat} {pt : Nat → Nat} {M : Nat → Nat → Int32} {i n : Nat} (h : lnR S a pa pt M i n) : sz M i = n := by
  unfold sz
  rw [h.2.1.2.1]
  exact nI_clamp (by have := h.2.1.2.2; omega)
theorem lk_no {set one two : Int32} {n : Nat} (h1 : ((set >>> (dN (n + 1) &&& 31)) &&& 1) = 1) (h2 : ¬ one % 10 = two % 10) : lk set (n + 1) one two = false := by
  have h3 : ¬ ((set >>> (nI n &&& 31)) &&& 1) = 0 := (and1_iff _).mp h1
  unfold lk
  rw [decide_eq_false h3, decide_eq_false h2]
  rfl
theorem lk_yes0 {set one two : Int32} {n : Nat} (h1 : ¬ ((set >>> (dN (n + 1) &&& 31)) &&& 1) = 1) : lk set (n + 1) one two = lk set n (one / 10) (two / 10) := by
  have h3 : ((set >>> (nI n &&& 31)) &&& 1) = 0 := Decidable.byContradiction fun h => h1 ((and1_iff _).mpr h)
  rw [lk, decide_eq_true h3]
  rfl
theorem lk_yes1 {set one two : Int32} {n : Nat} (h2 : one % 10 = two % 10) : lk set (n + 1) one two = lk set n (one / 10) (two / 10) := by
  rw [lk, decide_eq_true h2, Bool.or_true, Bool.true_and]
theorem nI_inc (j : Nat) : nI j + Int32.ofInt 1 = nI (j + 1) := nI_1 j
/-- a loop's bound: passed, not passed -/
theorem gT {x y : Int32} {n j : Nat} (hx : x = nI n) (hy : y = nI j) (h : n ≤ j) (hb : j < 2 ^ 31) : ¬ ¬ x ≤ y := by
  subst hx; subst hy
  exact not_not_intro (nI_le h hb)
theorem gF {x y : Int32} {n j : Nat} (hx : x = nI n) (hy : y = nI j) (h : j < n) (hb : n < 2 ^ 31) : ¬ x ≤ y := by
  subst hx; subst hy
  exact nI_ge h hb
theorem mt_den {f d : Nat → Bool} {n k : Nat} (hk : k < n) (h1 : f k = true) (h2 : d k = true) : mtch f d n = false := by
  unfold mtch
  have h : anyN (fun k => f k && d k) n = true := anyN_iff.mpr ⟨k, hk, by simp [h1, h2]⟩
  rw [h]
  simp
theorem mt_end {f d : Nat → Bool} {n : Nat} (h : anyN (fun k => f k && d k) n = false) : mtch f d n = anyN (fun k => f k && !d k) n := by
  unfold mtch
  rw [h]
  simp
/-- the class's cells: the object h, its rows, the lines at ad i (spare ones too), their rows of patterns -/
def cG (S : hS) (h bk ca sa : Nat) (ad pa : Nat → Nat) : Prop :=
  isO S h 4 ∧ (sR S 40 h = some bk ∧ isO S bk 9 ∧ sN S bk = 40) ∧ (sR S 42 h = some ca ∧ isO S ca 8 ∧ sN S ca = 20) ∧ (sR S 44 h = some sa ∧ isO S sa 11 ∧ sN S sa = 20) ∧
  (∀ i, i < 40 → sB S bk i = some (ad i) ∧ lnG S (ad i) (pa (ad i))) ∧ (∀ i j, i < 40 → j < 40 → ad i = ad j → i = j) ∧ (∀ i j, i < 40 → j < 40 → pa (ad i) = pa (ad j) → i = j)
def crR (S : hS) (a : Nat) (M : Nat → Nat → Int32) (i : Nat) : Prop := isO S a 0 ∧ sF S 0 a = M 18 i ∧ sF S 1 a = M 19 i ∧ sF S 2 a = M 20 i ∧ sF S 3 a = M 21 i ∧ sF S 4 a = M 22 i ∧ sF S 5 a = M 23 i ∧ sF S 6 a = M 24 i
def spR (S : hS) (a : Nat) (M : Nat → Nat → Int32) (i : Nat) : Prop := isO S a 3 ∧ sF S 30 a = M 26 i ∧ sF S 31 a = M 27 i ∧ sF S 32 a = M 28 i
/-- what they hold: the state sc, M with n lines, nc certificates, ns spans -/
def cL (S : hS) (ad pa : Nat → Nat) (M : Nat → Nat → Int32) (n : Nat) : Prop := ∀ i, i < n → ∃ (pt : Nat → Nat) (k : Nat), lnR S (ad i) (pa (ad i)) pt M i k
def cX (S : hS) (h ca sa : Nat) (sc : Nat → Int32) (M : Nat → Nat → Int32) (nc ns : Nat) : Prop :=
  (sF S 43 h = nI nc ∧ sc 17 = nI nc ∧ nc ≤ 20) ∧ (sF S 45 h = nI ns ∧ sc 25 = nI ns ∧ ns ≤ 20) ∧ (sF S 46 h = sc 1 ∧ sF S 47 h = sc 2 ∧ sF S 48 h = sc 3 ∧ isB (sc 3)) ∧ (sF S 51 h = sc 29 ∧ (¬ sc 29 = -1 → sF S 49 h = sc 30 ∧ sF S 50 h = sc 31)) ∧
  (∀ i, i < nc → ∃ a, sB S ca i = some a ∧ crR S a M i) ∧ (∀ i, i < ns → ∃ a, sB S sa i = some a ∧ spR S a M i)
def cN (S : hS) (h : Nat) (sc : Nat → Int32) (n : Nat) : Prop := sF S 41 h = nI n ∧ sc 4 = nI n ∧ n ≤ 40
def cC (S : hS) (h ca sa : Nat) (ad pa : Nat → Nat) (sc : Nat → Int32) (M : Nat → Nat → Int32) (n nc ns : Nat) : Prop := cN S h sc n ∧ cL S ad pa M n ∧ cX S h ca sa sc M nc ns
theorem pfit_ft {S : hS} {a pa : Nat} {pt : Nat → Nat} {M : Nat → Nat → Int32} {i n k : Nat} {name port : Int32} (h : lnR S a pa pt M i n) (hk : k < n) : (decide (sF S 22 (pt k) = port) && like (sF S 21 (pt k)) (sF S 20 (pt k)) name) = ft M i name port k := by
  obtain ⟨-, -, h20, h21, h22, -⟩ := h.2.2.2 k hk
  unfold ft
  rw [h20, h21, h22]
theorem den_dn {S : hS} {a pa : Nat} {pt : Nat → Nat} {M : Nat → Nat → Int32} {i n k : Nat} (h : lnR S a pa pt M i n) (hk : k < n) : dn M i k = decide (¬ sF S 23 (pt k) = 0) := by
  obtain ⟨-, -, -, -, -, h23⟩ := h.2.2.2 k hk
  unfold dn
  rw [h23]
theorem mt_hash {S : hS} {a pa : Nat} {pt : Nat → Nat} {M : Nat → Nat → Int32} {i n : Nat} {name port : Int32} (hL : lnR S a pa pt M i n) (c : ¬ sF S 16 a = 0) : mt M i name port = (decide (port = sF S 19 a) && decide (hsh name (sF S 18 a) = sF S 17 a)) := by
  rcases hL.2.2.1 with ⟨-, h9, h18, h17, h19⟩ | ⟨h, -⟩
  · unfold mt
    rw [if_neg h9, h18, h17, h19]
    rw [show decide (M 11 i = port) = decide (port = M 11 i) from decide_eq_decide.mpr eq_comm, show decide (M 10 i = hsh name (M 9 i)) = decide (hsh name (M 9 i) = M 10 i) from decide_eq_decide.mpr eq_comm]
  · exact absurd h c
/-- the class's judgement -/
def jo (day : Int32) (M : Nat → Nat → Int32) (n ns : Nat) (name port key : Int32) (c : Nat) : Int32 :=
  if ¬ jb day M name port key (M 18 c) n = 0 ∧ M 19 c = key ∧ gd day M n ns c name port = true then 1 else jb day M name port key (M 18 c) n
theorem cL_ln {S : hS} {a pa : Nat} {pt : Nat → Nat} {M : Nat → Nat → Int32} {i k : Nat} {day key : Int32} {name port : Int32} (hL : lnR S a pa pt M i k) : ln day M 2 key false name port i = (decide (sF S 10 a = 2) && decide (sF S 11 a = key) && !en day (sF S 13 a) && mt M i name port) := by
  unfold ln
  rw [hL.1.1, hL.1.2.1, hL.1.2.2.2]
  rfl
theorem sp_of {S : hS} {a cr c k : Nat} {M : Nat → Nat → Int32} (h : spR S a M k) (hc : crR S cr M c) : sp M c k = (decide (sF S 30 a = sF S 0 cr) && (decide (sF S 31 a ≤ sF S 4 cr) && decide (sF S 4 cr ≤ sF S 32 a))) := by
  unfold sp
  rw [h.2.1, h.2.2.1, h.2.2.2, hc.2.1, hc.2.2.2.2.2.1]
theorem anyN_s {f : Nat → Bool} {j : Nat} (h : anyN f j = false) (h2 : f j = false) : anyN f (j + 1) = false := by
  rw [anyN, h, h2]; rfl
theorem anyN_t {f : Nat → Bool} {j n : Nat} (hj : j < n) (h2 : f j = true) : anyN f n = true := anyN_iff.mpr ⟨j, hj, h2⟩
theorem b2_n0 {b : Bool} (h : ¬ b2 b = 0) : b = true := by cases b; exact absurd rfl h; rfl
theorem jb_s0 {day : Int32} {M : Nat → Nat → Int32} {name port key au : Int32} {i : Nat} (h : mt M i name port = false) : jb day M name port key au (i + 1) = jb day M name port key au i := by
  rw [jb, h]; rfl
theorem jb_s1 {day : Int32} {M : Nat → Nat → Int32} {name port key au : Int32} {i : Nat} (h : mt M i name port = true) : jb day M name port key au (i + 1) = imin (jb day M name port key au i) (jm day M i key au) := by
  rw [jb, h]; rfl
/-! arguments in their ranges; which exception a call throws -/
def inR (v lo hi : Int32) : Bool := decide (lo ≤ v) && decide (v ≤ hi)
def okK (v : Int32) : Bool := inR v 0 199
def okN (v : Int32) : Bool := inR v 0 9999
def okP (v : Int32) : Bool := inR v 0 3
def okNP (name port : Int32) : Bool := okN name && okP port
def inL (i : Int32) (n : Nat) : Bool := decide (0 ≤ i) && decide (i < nI n)
def xIA : String := "java/lang/IllegalArgumentException"
def xIS : String := "java/lang/IllegalStateException"
def xIO : String := "java/lang/IndexOutOfBoundsException"
def pe1 (a : Bool) (E1 : String) : String → Prop := fun E => a = false ∧ E = E1
def pe2 (a b : Bool) (E1 E2 : String) : String → Prop := fun E => (a = false ∧ E = E1) ∨ (a = true ∧ b = false ∧ E = E2)
def pe3 (a b c : Bool) (E1 E2 E3 : String) : String → Prop := fun E => (a = false ∧ E = E1) ∨ (a = true ∧ b = false ∧ E = E2) ∨ (a = true ∧ b = true ∧ c = false ∧ E = E3)
theorem inL_get {i : Int32} {n : Nat} (h : inL i n = true) (hn : n < 2 ^ 31) : ∃ j : Nat, j < n ∧ i = nI j := by
  unfold inL at h
  rw [Bool.and_eq_true, decide_eq_true_eq, decide_eq_true_eq] at h
  obtain ⟨j, hj, rfl⟩ := nI_of (Int32.not_lt.mpr h.1)
  refine ⟨j, ?_, rfl⟩
  exact (nI_ltI hj hn).mp h.2
theorem inL_nI {j n : Nat} (h : j < n) (hn : n < 2 ^ 31) : inL (nI j) n = true := by
  unfold inL
  rw [decide_eq_true (nI_pos' (by omega)), decide_eq_true (nI_lt h hn)]
  rfl
theorem inR_f1 {v lo hi : Int32} (h : v < lo) : inR v lo hi = false := by unfold inR; rw [decide_eq_false (Int32.not_le.mpr h)]; rfl
theorem inR_f2 {v lo hi : Int32} (h : ¬ v ≤ hi) : inR v lo hi = false := by unfold inR; rw [decide_eq_false h, Bool.and_false]
theorem inR_t {v lo hi : Int32} (h1 : ¬ v < lo) (h2 : v ≤ hi) : inR v lo hi = true := by unfold inR; rw [decide_eq_true (Int32.not_lt.mp h1), decide_eq_true h2]; rfl
theorem inL_f1 {v : Int32} {n : Nat} (h : v < 0) : inL v n = false := by unfold inL; rw [decide_eq_false (Int32.not_le.mpr h)]; rfl
theorem inL_f2 {v : Int32} {n : Nat} (h : ¬ v < nI n) : inL v n = false := by unfold inL; rw [decide_eq_false h, Bool.and_false]
theorem inL_t {v : Int32} {n : Nat} (h1 : ¬ v < 0) (h2 : v < nI n) : inL v n = true := by unfold inL; rw [decide_eq_true (Int32.not_lt.mp h1), decide_eq_true h2]; rfl
theorem fd_s {f : Nat → Bool} {n j r : Nat} (h : j + (r + 1) = n) (hf : f j = false) : fd f n (r + 1) = fd f n r := by
  rw [fd, show n - (r + 1) = j by omega, hf]; rfl
theorem fd_t {f : Nat → Bool} {n j r : Nat} (h : j + (r + 1) = n) (hf : f j = true) : fd f n (r + 1) = nI j := by
  rw [fd, show n - (r + 1) = j by omega, hf]; rfl
theorem lo_s {f : Nat → Bool} {j : Nat} (hf : f j = false) : lo f (j + 1) = lo f j := by
  rw [lo, hf]
  show lo f j ||| 0 = lo f j
  exact Int64.or_zero
theorem lo_t {f : Nat → Bool} {j : Nat} (hf : f j = true) : lo f (j + 1) = lo f j ||| ((1 : Int64) <<< ((nI j).toInt64 &&& 63)) := by
  rw [lo, hf]; rfl

