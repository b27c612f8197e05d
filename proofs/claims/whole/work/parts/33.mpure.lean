/-! what the model's public calls leave: by the conditions in their order -/
def mP1 (S : hS) (md : Nat) (ar : Nat → Nat) (A : Bool) (sc : Nat → Int32) (M : Nat → Nat → Int32) (r : Int32) (sc' : Nat → Int32) (M' : Nat → Nat → Int32) : Option Value → hS → Prop :=
  pGI (fun v S' => mdF S S' ∧ ((A = false ∧ mS S' md ar (va_up sc 0 1) M) ∨ (A = true ∧ v = r ∧ mS S' md ar sc' M')))
def mP1L (S : hS) (md : Nat) (ar : Nat → Nat) (A : Bool) (sc : Nat → Int32) (M : Nat → Nat → Int32) (r : Int64) (sc' : Nat → Int32) (M' : Nat → Nat → Int32) : Option Value → hS → Prop :=
  pGL (fun v S' => mdF S S' ∧ ((A = false ∧ mS S' md ar (va_up sc 0 1) M) ∨ (A = true ∧ v = r ∧ mS S' md ar sc' M')))
def mP2 (S : hS) (md : Nat) (ar : Nat → Nat) (A B : Bool) (sc : Nat → Int32) (M : Nat → Nat → Int32) (r : Int32) (sc' : Nat → Int32) (M' : Nat → Nat → Int32) : Option Value → hS → Prop :=
  pGI (fun v S' => mdF S S' ∧ ((A = false ∧ mS S' md ar (va_up sc 0 1) M) ∨ (A = true ∧ B = false ∧ mS S' md ar (va_up sc 0 2) M) ∨ (A = true ∧ B = true ∧ v = r ∧ mS S' md ar sc' M')))
def mP3 (S : hS) (md : Nat) (ar : Nat → Nat) (A B C : Bool) (sc : Nat → Int32) (M : Nat → Nat → Int32) (r : Int32) (sc' : Nat → Int32) (M' : Nat → Nat → Int32) : Option Value → hS → Prop :=
  pGI (fun v S' => mdF S S' ∧ ((A = false ∧ mS S' md ar (va_up sc 0 1) M) ∨ (A = true ∧ B = false ∧ mS S' md ar (va_up sc 0 2) M) ∨ (A = true ∧ B = true ∧ C = false ∧ mS S' md ar (va_up sc 0 3) M) ∨ (A = true ∧ B = true ∧ C = true ∧ v = r ∧ mS S' md ar sc' M')))
/-! a line becomes like another one, row by row -/
def lkM (M : Nat → Nat → Int32) (i j k : Nat) : Nat → Nat → Int32 := fun f x => if 9 ≤ f ∧ f ≤ 12 ∧ x = i then M f j else if 13 ≤ f ∧ f ≤ 16 ∧ x / 4 = i ∧ x % 4 < k then M f (4 * j + x % 4) else M f x
theorem lkM_0 (M : Nat → Nat → Int32) (i j : Nat) : u2 (u2 (u2 (u2 M 9 i (M 9 j)) 10 i (M 10 j)) 11 i (M 11 j)) 12 i (M 12 j) = lkM M i j 0 := by
  funext f x
  unfold lkM
  rw [u2_at, u2_at, u2_at, u2_at]
  by_cases hx : x = i
  · by_cases h9 : f = 9
    · subst h9; rw [if_neg (by omega), if_neg (by omega), if_neg (by omega), if_pos ⟨rfl, hx⟩, if_pos ⟨by omega, by omega, hx⟩]
    · by_cases h10 : f = 10
      · subst h10; rw [if_neg (by omega), if_neg (by omega), if_pos ⟨rfl, hx⟩, if_pos ⟨by omega, by omega, hx⟩]
      · by_cases h11 : f = 11
        · subst h11; rw [if_neg (by omega), if_pos ⟨rfl, hx⟩, if_pos ⟨by omega, by omega, hx⟩]
        · by_cases h12 : f = 12
          · subst h12; rw [if_pos ⟨rfl, hx⟩, if_pos ⟨by omega, by omega, hx⟩]
          · rw [if_neg (by omega), if_neg (by omega), if_neg (by omega), if_neg (by omega), if_neg (by omega), if_neg (by omega)]
  · rw [if_neg (by omega), if_neg (by omega), if_neg (by omega), if_neg (by omega), if_neg (by omega), if_neg (by omega)]
theorem lkM_rd {M : Nat → Nat → Int32} {i j k f : Nat} (hf : 13 ≤ f) (hk : k < 4) : lkM M i j k f (4 * j + k) = M f (4 * j + k) := by
  unfold lkM
  rw [if_neg (by omega), if_neg (by omega)]
theorem lkM_s {M : Nat → Nat → Int32} {i j k : Nat} (hk : k < 4) : u2 (u2 (u2 (u2 (lkM M i j k) 13 (4 * i + k) (M 13 (4 * j + k))) 14 (4 * i + k) (M 14 (4 * j + k))) 15 (4 * i + k) (M 15 (4 * j + k))) 16 (4 * i + k) (M 16 (4 * j + k)) = lkM M i j (k + 1) := by
  funext f x
  rw [u2_at, u2_at, u2_at, u2_at]
  unfold lkM
  by_cases hx : x = 4 * i + k
  · subst hx
    have e1 : (4 * i + k) % 4 = k := by omega
    by_cases h13 : f = 13
    · subst h13; rw [if_neg (by omega), if_neg (by omega), if_neg (by omega), if_pos ⟨rfl, rfl⟩, if_neg (by omega), if_pos (by omega), e1]
    · by_cases h14 : f = 14
      · subst h14; rw [if_neg (by omega), if_neg (by omega), if_pos ⟨rfl, rfl⟩, if_neg (by omega), if_pos (by omega), e1]
      · by_cases h15 : f = 15
        · subst h15; rw [if_neg (by omega), if_pos ⟨rfl, rfl⟩, if_neg (by omega), if_pos (by omega), e1]
        · by_cases h16 : f = 16
          · subst h16; rw [if_pos ⟨rfl, rfl⟩, if_neg (by omega), if_pos (by omega), e1]
          · rw [if_neg (by omega), if_neg (by omega), if_neg (by omega), if_neg (by omega)]
            by_cases h1 : 9 ≤ f ∧ f ≤ 12 ∧ 4 * i + k = i
            · rw [if_pos h1, if_pos h1]
            · rw [if_neg h1, if_neg h1, if_neg (by omega), if_neg (by omega)]
  · rw [if_neg (by omega), if_neg (by omega), if_neg (by omega), if_neg (by omega)]
    by_cases h1 : 9 ≤ f ∧ f ≤ 12 ∧ x = i
    · rw [if_pos h1, if_pos h1]
    · rw [if_neg h1, if_neg h1]
      by_cases h2 : 13 ≤ f ∧ f ≤ 16 ∧ x / 4 = i ∧ x % 4 < k
      · rw [if_pos h2, if_pos (by omega)]
      · rw [if_neg h2, if_neg (by omega)]
theorem lkM_4 (M : Nat → Nat → Int32) (i j : Nat) : lkM M i j 4 = aLike M i j := by
  funext f x
  unfold lkM aLike
  by_cases h1 : 9 ≤ f ∧ f ≤ 12 ∧ x = i
  · rw [if_pos h1, if_pos h1]
  · rw [if_neg h1, if_neg h1]
    by_cases h2 : 13 ≤ f ∧ f ≤ 16 ∧ x / 4 = i
    · rw [if_pos (by omega), if_pos h2]
    · rw [if_neg (by omega), if_neg h2]
/-! taken out, line by line -/
def rmM (M : Nat → Nat → Int32) (i k : Nat) : Nat → Nat → Int32 := fun f x => if 5 ≤ f ∧ f ≤ 12 ∧ i ≤ x ∧ x < k then M f (x + 1) else if 13 ≤ f ∧ f ≤ 16 ∧ i ≤ x / 4 ∧ x / 4 < k then M f (x + 4) else M f x
theorem rmM_0 (M : Nat → Nat → Int32) (i : Nat) : rmM M i i = M := by
  funext f x
  unfold rmM
  rw [if_neg (by omega), if_neg (by omega)]
theorem rmM_e (M : Nat → Nat → Int32) (i n : Nat) : rmM M i n = aRem M i (n + 1) := by
  funext f x
  unfold rmM aRem
  simp only [Nat.add_lt_add_iff_right]
theorem rmM_rd {M : Nat → Nat → Int32} {i k f : Nat} (hf : f ≤ 12) : rmM M i k f (k + 1) = M f (k + 1) := by
  unfold rmM
  rw [if_neg (by omega), if_neg (by omega)]
theorem rmM_b {M : Nat → Nat → Int32} {i k : Nat} (h : ∀ x, isB (M 16 x)) (x : Nat) : isB (rmM M i k 16 x) := by
  unfold rmM
  rw [if_neg (by omega)]
  split
  · exact h _
  · exact h _
theorem rmM_s {M : Nat → Nat → Int32} {i k : Nat} (hik : i ≤ k) : aLike (u2 (u2 (u2 (u2 (rmM M i k) 5 k (M 5 (k + 1))) 6 k (M 6 (k + 1))) 7 k (M 7 (k + 1))) 8 k (M 8 (k + 1))) k (k + 1) = rmM M i (k + 1) := by
  funext f x
  have hlo : ∀ g y, 8 < g → u2 (u2 (u2 (u2 (rmM M i k) 5 k (M 5 (k + 1))) 6 k (M 6 (k + 1))) 7 k (M 7 (k + 1))) 8 k (M 8 (k + 1)) g y = rmM M i k g y := fun g y hg => by
    rw [u2_at, if_neg (by omega), u2_at, if_neg (by omega), u2_at, if_neg (by omega), u2_at, if_neg (by omega)]
  unfold aLike
  by_cases h1 : 9 ≤ f ∧ f ≤ 12 ∧ x = k
  · obtain ⟨h2, h3, rfl⟩ := h1
    rw [if_pos ⟨h2, h3, rfl⟩, hlo _ _ (by omega), rmM_rd h3]
    unfold rmM
    rw [if_pos (by omega)]
  · rw [if_neg h1]
    by_cases h2 : 13 ≤ f ∧ f ≤ 16 ∧ x / 4 = k
    · rw [if_pos h2, hlo _ _ (by omega)]
      unfold rmM
      rw [if_neg (by omega), if_neg (by omega), if_neg (by omega), if_pos (by omega)]
      exact congrArg (M f) (by omega)
    · rw [if_neg h2, u2_at, u2_at, u2_at, u2_at]
      by_cases hx : x = k
      · subst hx
        by_cases h8 : f = 8
        · subst h8; rw [if_pos ⟨rfl, rfl⟩]; unfold rmM; rw [if_pos (by omega)]
        · by_cases h7 : f = 7
          · subst h7; rw [if_neg (by omega), if_pos ⟨rfl, rfl⟩]; unfold rmM; rw [if_pos (by omega)]
          · by_cases h6 : f = 6
            · subst h6; rw [if_neg (by omega), if_neg (by omega), if_pos ⟨rfl, rfl⟩]; unfold rmM; rw [if_pos (by omega)]
            · by_cases h5 : f = 5
              · subst h5; rw [if_neg (by omega), if_neg (by omega), if_neg (by omega), if_pos ⟨rfl, rfl⟩]; unfold rmM; rw [if_pos (by omega)]
              · rw [if_neg (by omega), if_neg (by omega), if_neg (by omega), if_neg (by omega)]
                unfold rmM
                have a1 : ¬ (5 ≤ f ∧ f ≤ 12 ∧ i ≤ x ∧ x < x) := by omega
                have a2 : ¬ (5 ≤ f ∧ f ≤ 12 ∧ i ≤ x ∧ x < x + 1) := by omega
                rw [if_neg a1, if_neg a2]
                by_cases h9 : 13 ≤ f ∧ f ≤ 16 ∧ i ≤ x / 4 ∧ x / 4 < x
                · have h10 : 13 ≤ f ∧ f ≤ 16 ∧ i ≤ x / 4 ∧ x / 4 < x + 1 := by omega
                  rw [if_pos h9, if_pos h10]
                · have h10 : ¬ (13 ≤ f ∧ f ≤ 16 ∧ i ≤ x / 4 ∧ x / 4 < x + 1) := by omega
                  rw [if_neg h9, if_neg h10]
      · rw [if_neg (by omega), if_neg (by omega), if_neg (by omega), if_neg (by omega)]
        unfold rmM
        by_cases h9 : 5 ≤ f ∧ f ≤ 12 ∧ i ≤ x ∧ x < k
        · have h10 : 5 ≤ f ∧ f ≤ 12 ∧ i ≤ x ∧ x < k + 1 := by omega
          rw [if_pos h9, if_pos h10]
        · have h10 : ¬ (5 ≤ f ∧ f ≤ 12 ∧ i ≤ x ∧ x < k + 1) := by omega
          rw [if_neg h9, if_neg h10]
          by_cases h11 : 13 ≤ f ∧ f ≤ 16 ∧ i ≤ x / 4 ∧ x / 4 < k
          · have h12 : 13 ≤ f ∧ f ≤ 16 ∧ i ≤ x / 4 ∧ x / 4 < k + 1 := by omega
            rw [if_pos h11, if_pos h12]
          · have h12 : ¬ (13 ≤ f ∧ f ≤ 16 ∧ i ≤ x / 4 ∧ x / 4 < k + 1) := by omega
            rw [if_neg h11, if_neg h12]
theorem u2_self (M : Nat → Nat → Int32) (f j : Nat) : u2 M f j (M f j) = M := by
  funext x y
  rw [u2_at]
  by_cases h : x = f ∧ y = j
  · rw [if_pos h, h.1, h.2]
  · rw [if_neg h]
