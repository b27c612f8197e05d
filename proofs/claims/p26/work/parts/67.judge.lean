/-! judging, line by line; counting; cleaning; turning -/
theorem imin_le1 {x y : Int32} : imin x y ≤ x := by
  unfold imin; split
  · exact Int32.le_of_lt ‹_›
  · exact Int32.le_refl _
theorem imin_le2 {x y : Int32} : imin x y ≤ y := by
  unfold imin; split
  · exact Int32.le_refl _
  · exact Int32.not_lt.mp ‹_›
theorem imin_or {x y : Int32} : imin x y = x ∨ imin x y = y := by
  unfold imin; split
  · exact Or.inr rfl
  · exact Or.inl rfl
section HJb
variable {day : Int32} {M M' : Nat → Nat → Int32} {name port key au : Int32}
theorem jb_low : ∀ n i, i < n → mt M i name port = true → jb day M name port key au n ≤ jm day M i key au := by
  intro n
  induction n with
  | zero => intro i hi; omega
  | succ n ih =>
    intro i hi hm
    by_cases hin : i = n
    · subst hin
      rw [jb_s1 hm]; exact imin_le2
    · cases h : mt M n name port with
      | false => rw [jb_s0 h]; exact ih i (by omega) hm
      | true => rw [jb_s1 h]; exact Int32.le_trans imin_le1 (ih i (by omega) hm)
theorem jb_att : ∀ n, jb day M name port key au n = 5 ∨ ∃ i, i < n ∧ mt M i name port = true ∧ jm day M i key au = jb day M name port key au n := by
  intro n
  induction n with
  | zero => exact Or.inl rfl
  | succ n ih =>
    have hup : ∀ z : Int32, (z = 5 ∨ ∃ i, i < n ∧ mt M i name port = true ∧ jm day M i key au = z) → (z = 5 ∨ ∃ i, i < n + 1 ∧ mt M i name port = true ∧ jm day M i key au = z) := fun z w => w.elim Or.inl (fun ⟨i, h1, h2⟩ => Or.inr ⟨i, by omega, h2⟩)
    cases h : mt M n name port with
    | false => rw [jb_s0 h]; exact hup _ ih
    | true =>
      rw [jb_s1 h]
      rcases imin_or (x := jb day M name port key au n) (y := jm day M n key au) with e | e
      · rw [e]; exact hup _ ih
      · rw [e]; exact Or.inr ⟨n, Nat.lt_succ_self n, h, rfl⟩
theorem jm_in (i : Nat) : jm day M i key au = 0 ∨ jm day M i key au = 2 ∨ jm day M i key au = 3 ∨ jm day M i key au = 4 ∨ jm day M i key au = 5 := by
  unfold jm jmF
  split
  · exact Or.inl rfl
  · split
    · exact Or.inr (Or.inr (Or.inr (Or.inr rfl)))
    · split
      · exact Or.inr (Or.inl rfl)
      · split
        · exact Or.inr (Or.inr (Or.inl rfl))
        · exact Or.inr (Or.inr (Or.inr (Or.inl rfl)))
theorem jm_i0 {i : Nat} (h : jm day M i key au = 0) : M 6 i = 1 ∧ (M 5 i = key ∨ M 5 i = au) := by
  unfold jm jmF at h
  split at h
  · assumption
  · split at h
    · exact absurd h (by decide)
    · split at h
      · exact absurd h (by decide)
      · split at h
        · exact absurd h (by decide)
        · exact absurd h (by decide)
theorem jm_i2 {i : Nat} (h : jm day M i key au = 2) : M 6 i = 0 ∧ en day (M 8 i) = false ∧ M 5 i = key := by
  unfold jm jmF at h
  split at h
  · exact absurd h (by decide)
  · split at h
    · exact absurd h (by decide)
    · rename_i h2
      have h3 := Decidable.not_not.mp h2
      split at h
      · rename_i h4
        exact ⟨h3.1, h3.2, h4⟩
      · split at h
        · exact absurd h (by decide)
        · exact absurd h (by decide)
theorem jm_to2 {i : Nat} (h6 : M 6 i = 0) (h8 : en day (M 8 i) = false) (h5 : M 5 i = key) : jm day M i key au = 2 := by
  unfold jm jmF
  rw [if_neg (fun z => by rw [h6] at z; exact absurd z.1 (by decide)), if_neg (not_not_intro ⟨h6, h8⟩), if_pos h5]
theorem en_none : en day (-1) = false := rfl
/-- with a new live line of this key, where nothing is revoked: trusted -/
theorem jb_2 {n i : Nat} (hi : i < n) (hm : mt M i name port = true) (h2 : jm day M i key (-1) = 2) (h0 : ∀ j, j < n → mt M j name port = true → ¬ jm day M j key (-1) = 0) : jb day M name port key (-1) n = 2 := by
  have hl := jb_low (day := day) (M := M) (name := name) (port := port) (key := key) (au := -1) n i hi hm
  rw [h2] at hl
  rcases jb_att (day := day) (M := M) (name := name) (port := port) (key := key) (au := -1) n with h | ⟨j, hj, hmj, e⟩
  · rw [h] at hl; exact absurd hl (by decide)
  · rw [← e] at hl ⊢
    rcases jm_in (day := day) (M := M) (key := key) (au := -1) j with z | z | z | z | z
    · exact absurd z (h0 j hj hmj)
    · exact z
    · rw [z] at hl; exact absurd hl (by decide)
    · rw [z] at hl; exact absurd hl (by decide)
    · rw [z] at hl; exact absurd hl (by decide)
theorem jb_n0 {n j : Nat} (h : ¬ jb day M name port key (-1) n = 0) (hj : j < n) (hm : mt M j name port = true) : ¬ jm day M j key (-1) = 0 := fun z => by
  have hl := jb_low (day := day) (M := M) (name := name) (port := port) (key := key) (au := -1) n j hj hm
  rw [z] at hl
  rcases jb_att (day := day) (M := M) (name := name) (port := port) (key := key) (au := -1) n with e | ⟨i, hi, hmi, e⟩
  · rw [e] at hl; exact absurd hl (by decide)
  · rcases jm_in (day := day) (M := M) (key := key) (au := -1) i with z | z | z | z | z
    · exact h (e ▸ z)
    all_goals (rw [← e, z] at hl; exact absurd hl (by decide))
/-- a certificate's authority may only revoke -/
theorem jm_au {i : Nat} (hk : ¬ M 5 i = -1) : jm day M i key au = jm day M i key (-1) ∨ jm day M i key au = 0 := by
  unfold jm jmF
  by_cases h1 : M 6 i = 1 ∧ M 5 i = au
  · right; rw [if_pos ⟨h1.1, Or.inr h1.2⟩]
  · left
    by_cases h3 : M 6 i = 1 ∧ M 5 i = key
    · rw [if_pos ⟨h3.1, Or.inl h3.2⟩, if_pos ⟨h3.1, Or.inl h3.2⟩]
    · have e1 : ¬ (M 6 i = 1 ∧ (M 5 i = key ∨ M 5 i = au)) := fun z => z.2.elim (fun w => h3 ⟨z.1, w⟩) (fun w => h1 ⟨z.1, w⟩)
      have e2 : ¬ (M 6 i = 1 ∧ (M 5 i = key ∨ M 5 i = -1)) := fun z => z.2.elim (fun w => h3 ⟨z.1, w⟩) hk
      rw [if_neg e1, if_neg e2]
theorem jb_in (n : Nat) : jb day M name port key au n = 0 ∨ jb day M name port key au n = 2 ∨ jb day M name port key au n = 3 ∨ jb day M name port key au n = 4 ∨ jb day M name port key au n = 5 := by
  rcases jb_att (day := day) (M := M) (name := name) (port := port) (key := key) (au := au) n with e | ⟨i, hi, hmi, e⟩
  · exact Or.inr (Or.inr (Or.inr (Or.inr e)))
  · rw [← e]; exact jm_in i
theorem jb_au : ∀ n, (∀ i, i < n → ¬ M 5 i = -1) → jb day M name port key au n = jb day M name port key (-1) n ∨ jb day M name port key au n = 0 := by
  intro n
  induction n with
  | zero => exact fun _ => Or.inl rfl
  | succ n ih =>
    intro hk
    have ih := ih (fun i hi => hk i (by omega))
    cases h : mt M n name port with
    | false => rw [jb_s0 h, jb_s0 h]; exact ih
    | true =>
      rw [jb_s1 h, jb_s1 h]
      rcases ih with e | e
      · rcases jm_au (day := day) (M := M) (key := key) (au := au) (hk n (Nat.lt_succ_self n)) with z | z
        · rw [e, z]; exact Or.inl rfl
        · right
          rw [z]
          rcases jb_in (day := day) (M := M) (name := name) (port := port) (key := key) (au := au) n with w | w | w | w | w <;> rw [w] <;> decide
      · right
        rw [e]
        rcases jm_in (day := day) (M := M) (key := key) (au := au) n with w | w | w | w | w <;> rw [w] <;> decide
end HJb
/-- a judgement with a certificate or none against the one without -/
theorem jcase {day : Int32} {M : Nat → Nat → Int32} {n ns : Nat} {name port key : Int32} {co : Option Nat} (hk : ∀ i, i < n → ¬ M 5 i = -1) :
    lJg day M n ns name port key co = jb day M name port key (-1) n ∨ ∃ c, co = some c ∧ (lJg day M n ns name port key co = 0 ∨ (lJg day M n ns name port key co = 1 ∧ ¬ jb day M name port key (-1) n = 0 ∧ M 19 c = key)) := by
  cases co with
  | none => exact Or.inl rfl
  | some c =>
    show jo day M n ns name port key c = _ ∨ _
    have hb := jb_au (day := day) (M := M) (name := name) (port := port) (key := key) (au := M 18 c) n hk
    by_cases hc : ¬ jb day M name port key (M 18 c) n = 0 ∧ M 19 c = key ∧ gd day M n ns c name port = true
    · right
      refine ⟨c, rfl, Or.inr ⟨?_, ?_, hc.2.1⟩⟩
      · show jo day M n ns name port key c = 1
        unfold jo; rw [if_pos hc]
      · rcases hb with e | e
        · rw [← e]; exact hc.1
        · exact absurd e hc.1
    · have e2 : jo day M n ns name port key c = jb day M name port key (M 18 c) n := by unfold jo; rw [if_neg hc]
      rcases hb with e | e
      · exact Or.inl (e2.trans e)
      · exact Or.inr ⟨c, rfl, Or.inl (e2.trans e)⟩
theorem lCt_n1 {co : Option Nat} {nc : Nat} (hco : ∀ c, co = some c → c < nc) (hnc : nc ≤ 20) (h : lCt co = -1) : co = none := by
  cases co with
  | none => rfl
  | some c => exact absurd h (nI_nm1 (by have := hco c rfl; omega))
/-! counting -/
def kN (f : Nat → Bool) : Nat → Nat
  | 0 => 0
  | k + 1 => kN f k + (if f k then 1 else 0)
theorem kN_le {f : Nat → Bool} : ∀ n, kN f n ≤ n := by
  intro n
  induction n with
  | zero => exact Nat.le_refl _
  | succ n ih => rw [kN]; split <;> omega
theorem kN_cg {f f' : Nat → Bool} : ∀ n, (∀ i, i < n → f i = f' i) → kN f n = kN f' n := by
  intro n
  induction n with
  | zero => exact fun _ => rfl
  | succ n ih => intro h; rw [kN, kN, ih (fun i hi => h i (by omega)), h n (by omega)]
theorem kN_0 {f : Nat → Bool} : ∀ n, (∀ i, i < n → f i = false) → kN f n = 0 := by
  intro n
  induction n with
  | zero => exact fun _ => rfl
  | succ n ih => intro h; rw [kN, ih (fun i hi => h i (by omega)), h n (by omega)]; rfl
theorem kN_s {f : Nat → Bool} {j : Nat} : nI (kN f j) + b2 (f j) = nI (kN f (j + 1)) := by
  rw [kN]
  cases f j with
  | false => exact Int32.add_zero _
  | true => exact nI_1 _
/-! cleaning -/
theorem rotI_hi {i n k : Nat} (h : i ≤ k) (h2 : k + 1 < n) : rotI i n k = k + 1 := by unfold rotI; rw [if_pos ⟨h, h2⟩]
theorem rotI_lo {i n k : Nat} (h : k < i) (h2 : k + 1 < n) : rotI i n k = k := by unfold rotI; rw [if_neg (by omega), if_neg (by omega)]
theorem clB_rem {M : Nat → Nat → Int32} {day days : Int32} {k n i : Nat} (hi : i + 1 < n) : clB (aRem M k n) day days i = clB M day days (rotI k n i) := by
  unfold clB
  rw [aRem_at (by decide) (by decide) hi, aRem_at (by decide) (by decide) hi, aRem_at (by decide) (by decide) hi]
theorem cl_fact {day days : Int32} : ∀ (k n : Nat) (M : Nat → Nat → Int32), k ≤ n → (∀ i, k ≤ i → i < n → clB M day days i = false) →
    (cl day days k (M, n)).2 + kN (clB M day days) k = n ∧ ∀ i, i < (cl day days k (M, n)).2 → clB (cl day days k (M, n)).1 day days i = false := by
  intro k
  induction k with
  | zero => exact fun n M _ h => ⟨rfl, fun i hi => h i (Nat.zero_le i) hi⟩
  | succ k ih =>
    intro n M hk h
    cases hc : clB M day days k with
    | false =>
      rw [cl_s0 hc, kN, hc]
      refine ih n M (by omega) (fun i hi hin => ?_)
      by_cases hik : i = k
      · rw [hik]; exact hc
      · exact h i (by omega) hin
    | true =>
      obtain ⟨n0, rfl⟩ : ∃ n0, n = n0 + 1 := ⟨n - 1, by omega⟩
      rw [cl_s1 hc, kN, hc]
      obtain ⟨z1, z2⟩ := ih n0 (aRem M k (n0 + 1)) (by omega) (fun i hi hin => by
        rw [clB_rem (by omega), rotI_hi hi (by omega)]
        exact h (i + 1) (by omega) (by omega))
      rw [kN_cg (f := clB (aRem M k (n0 + 1)) day days) (f' := clB M day days) k (fun i hi => by rw [clB_rem (by omega), rotI_lo hi (by omega)])] at z1
      exact ⟨by rw [if_pos rfl]; omega, z2⟩
theorem lI_rem {sc : Nat → Int32} {M : Nat → Nat → Int32} {n i : Nat} (h : lI sc M (n + 1)) (hi : i < n + 1) : lI (scN sc n) (aRem M i (n + 1)) n := by
  refine ⟨jI_rem h.1 hi, by rw [scN_ne (by decide)]; exact h.2.1, fun j hj => ?_⟩
  rw [scN_ne (by decide)]
  unfold lnI
  rw [aRem_at (by decide) (by decide) (by omega), aRem_at (by decide) (by decide) (by omega), aRem_at (by decide) (by decide) (by omega)]
  exact h.2.2 _ (rotI_ltn hi (by omega))
theorem lI_cl {sc : Nat → Int32} {day days : Int32} : ∀ (k n : Nat) (M : Nat → Nat → Int32), k ≤ n → lI (scN sc n) M n → lI (scN sc (cl day days k (M, n)).2) (cl day days k (M, n)).1 (cl day days k (M, n)).2 := by
  intro k
  induction k with
  | zero => intro n M _ h; exact h
  | succ k ih =>
    intro n M hk h
    obtain ⟨n0, rfl⟩ : ∃ n0, n = n0 + 1 := ⟨n - 1, by omega⟩
    cases hc : clB M day days k with
    | false => rw [cl_s0 hc]; exact ih _ _ (by omega) h
    | true =>
      rw [cl_s1 hc]
      have h2 := lI_rem h (show k < n0 + 1 by omega)
      rw [scN_scN] at h2
      exact ih _ _ (by omega) h2
theorem cl_19 {day days : Int32} {x : Nat} : ∀ (k n : Nat) (M : Nat → Nat → Int32), k ≤ n → (cl day days k (M, n)).1 19 x = M 19 x := by
  intro k
  induction k with
  | zero => intro n M _; rfl
  | succ k ih =>
    intro n M hk
    obtain ⟨n0, rfl⟩ : ∃ n0, n = n0 + 1 := ⟨n - 1, by omega⟩
    cases hc : clB M day days k with
    | false => rw [cl_s0 hc]; exact ih _ _ (by omega)
    | true => rw [cl_s1 hc, ih _ _ (by omega), aRem_lo (by decide)]
theorem clb_0a {day days : Int32} {M : Nat → Nat → Int32} {j : Nat} (hm : mkP (M 6 j)) (hk : okK (M 5 j) = true) (h : 1000 ≤ 1000 * M 6 j + M 5 j) : (0 : Int32) = b2 (clB M day days j) := by
  have e : ¬ M 6 j = 0 := fun z => Int32.not_lt.mpr h ((ko_lt hm hk).mpr z)
  unfold clB; rw [decide_eq_false e]; rfl
theorem clb_e {day days : Int32} {M : Nat → Nat → Int32} {j : Nat} (hm : mkP (M 6 j)) (hk : okK (M 5 j) = true) (h : ¬ 1000 ≤ 1000 * M 6 j + M 5 j) : clB M day days j = (en day (M 8 j) || decide (days ≤ day - M 7 j)) := by
  have e : M 6 j = 0 := (ko_lt hm hk).mp (Int32.not_le.mp h)
  unfold clB; rw [decide_eq_true e]; rfl
theorem clb_1 {day days : Int32} {M : Nat → Nat → Int32} {j : Nat} (hm : mkP (M 6 j)) (hk : okK (M 5 j) = true) (h : ¬ 1000 ≤ 1000 * M 6 j + M 5 j) (h2 : ¬ b2 (en day (M 8 j)) = 0) : (1 : Int32) = b2 (clB M day days j) := by
  rw [clb_e hm hk h, b2_n0 h2]; rfl
theorem clb_0b {day days : Int32} {M : Nat → Nat → Int32} {j : Nat} (hm : mkP (M 6 j)) (hk : okK (M 5 j) = true) (h : ¬ 1000 ≤ 1000 * M 6 j + M 5 j) (h2 : b2 (en day (M 8 j)) = 0) (h3 : day - M 7 j < days) : (0 : Int32) = b2 (clB M day days j) := by
  rw [clb_e hm hk h, b2_0.mp h2, decide_eq_false (Int32.not_le.mpr h3)]; rfl
theorem clb_1b {day days : Int32} {M : Nat → Nat → Int32} {j : Nat} (hm : mkP (M 6 j)) (hk : okK (M 5 j) = true) (h : ¬ 1000 ≤ 1000 * M 6 j + M 5 j) (h3 : ¬ day - M 7 j < days) : (1 : Int32) = b2 (clB M day days j) := by
  rw [clb_e hm hk h, decide_eq_true (Int32.not_lt.mp h3), Bool.or_true]; rfl
