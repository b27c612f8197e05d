/-! names out of ints; the first line that matches, the lines with a key, read from behind -/
def nmN (A : Nat) : Nat := if A % 3 = 0 then A / 3 % 10000 else 1200 + A / 3 % 4 + 10 * (A / 12 % 2)
theorem nmN_le (A : Nat) : nmN A ≤ 9999 := by unfold nmN; split <;> omega
theorem nm_0 {A : Nat} (hA : A < 2 ^ 31) (h : nI A % 3 = 0) : nI A / 3 % 10000 = nI (nmN A) := by
  rw [show (3 : Int32) = nI 3 from rfl, nI_mod hA (by decide) (by decide), show (0 : Int32) = nI 0 from rfl, nI_eq (by omega) (by decide)] at h
  rw [show (3 : Int32) = nI 3 from rfl, pk_div hA (by decide) (by decide), show (10000 : Int32) = nI 10000 from rfl, nI_mod (by omega) (by decide) (by decide)]
  unfold nmN
  rw [if_pos h]
theorem nm_1 {A : Nat} (hA : A < 2 ^ 31) (h : ¬ nI A % 3 = 0) : 1200 + nI A / 3 % 4 + 10 * (nI A / 12 % 2) = nI (nmN A) := by
  rw [show (3 : Int32) = nI 3 from rfl, nI_mod hA (by decide) (by decide), show (0 : Int32) = nI 0 from rfl, nI_eq (by omega) (by decide)] at h
  rw [show (3 : Int32) = nI 3 from rfl, pk_div hA (by decide) (by decide), show (4 : Int32) = nI 4 from rfl, nI_mod (by omega) (by decide) (by decide), show (12 : Int32) = nI 12 from rfl, pk_div hA (by decide) (by decide), show (2 : Int32) = nI 2 from rfl, nI_mod (by omega) (by decide) (by decide), show (10 : Int32) = nI 10 from rfl, pk_mul, show (1200 : Int32) = nI 1200 from rfl, nI_add, nI_add]
  unfold nmN
  rw [if_neg h]
theorem inR_nI {x a b : Nat} (h1 : a ≤ x) (h2 : x ≤ b) (hb : b < 2 ^ 31) : inR (nI x) (nI a) (nI b) = true := inR_t (Int32.not_lt.mpr (nI_le h1 (by omega))) (nI_le h2 hb)
theorem okN_v {x : Nat} (h : x ≤ 9999) : okN (nI x) = true := inR_nI (a := 0) (Nat.zero_le x) h (by decide)
theorem okK_v {x : Nat} (h : x ≤ 199) : okK (nI x) = true := inR_nI (a := 0) (Nat.zero_le x) h (by decide)
theorem okP_v {x : Nat} (h : x ≤ 3) : okP (nI x) = true := inR_nI (a := 0) (Nat.zero_le x) h (by decide)
theorem okNP_v {x y : Nat} (h : x ≤ 9999) (h2 : y ≤ 3) : okNP (nI x) (nI y) = true := by
  unfold okNP
  rw [okN_v h, okP_v h2]; rfl
theorem m2N {B : Nat} (hB : B < 2 ^ 31) : nI B % 2 = nI (B % 2) := nI_mod (d := 2) hB (by decide) (by decide)
theorem d2N {B : Nat} (hB : B < 2 ^ 31) : nI B / 2 = nI (B / 2) := pk_div (d := 2) hB (by decide) (by decide)
def bitL (i : Nat) : Int64 := (1 : Int64) <<< ((nI i).toInt64 &&& 63)
/-- the last r lines of n with a key, as bits -/
def lr (f : Nat → Bool) (n : Nat) : Nat → Int64
  | 0 => 0
  | r + 1 => lr f n r ||| (if f (n - (r + 1)) then bitL (n - (r + 1)) else 0)
theorem lr_s {f : Nat → Bool} {n k r : Nat} (h : k + (r + 1) = n) : lr f n r ||| (if f k = true then bitL k else 0) = lr f n (r + 1) := by
  rw [lr, show n - (r + 1) = k by omega]
theorem lo_lr {f : Nat → Bool} {n : Nat} : ∀ r k, k + r = n → lo f n = lo f k ||| lr f n r := by
  intro r
  induction r with
  | zero =>
    intro k h
    rw [show k = n by omega, lr, Int64.or_zero]
  | succ r ih =>
    intro k h
    rw [ih (k + 1) (by omega), lo, lr, show n - (r + 1) = k by omega]
    show lo f k ||| (if f k = true then bitL k else 0) ||| lr f n r = _
    rw [Int64.or_assoc, Int64.or_comm (if f k = true then bitL k else 0) (lr f n r)]
theorem lo_lr0 {f : Nat → Bool} {n r : Nat} (h : r = n) : lo f n = lr f n r := by
  rw [lo_lr r 0 (by omega)]
  show (0 : Int64) ||| lr f n r = lr f n r
  exact Int64.zero_or
theorem fdn_0 {f : Nat → Bool} {n k r : Nat} (h : k + (r + 1) = n) (hf : b2 (f k) = 0) : fd f n r = fd f n (r + 1) := (fd_s h (b2_0.mp hf)).symm
theorem fdn_1 {f : Nat → Bool} {n k r : Nat} (h : k + (r + 1) = n) (hf : ¬ b2 (f k) = 0) : nI k = fd f n (r + 1) := (fd_t h (b2_n0 hf)).symm
theorem bit_0 {a b : Int32} {i : Nat} (h : ¬ a = b) : (0 : Int64) = if decide (a = b) = true then bitL i else 0 := by rw [decide_eq_false h]; rfl
theorem bit_1 {a b : Int32} {i : Nat} (h : a = b) : bitL i = if decide (a = b) = true then bitL i else 0 := by rw [decide_eq_true h]; rfl
