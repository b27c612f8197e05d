/-! the model's judgement -/
theorem bst_0 {day : Int32} {M : Nat → Nat → Int32} {name port key : Int32} {j : Nat} (h : (decide (M 6 j = 0) && !en day (M 8 j) && mt M j name port) = false) : bst day M name port key (j + 1) = bst day M name port key j := by
  rw [bst, if_neg (fun z => by rw [h] at z; exact absurd z.1 (by decide))]
theorem bst_lt {day : Int32} {M : Nat → Nat → Int32} {name port key x : Int32} {j : Nat} (h : (decide (M 6 j = 0) && !en day (M 8 j) && mt M j name port) = true) (hx : its M j key = x) (hl : ¬ bst day M name port key j ≤ x) : bst day M name port key (j + 1) = x := by
  rw [bst, if_pos ⟨h, by rw [hx]; exact Int32.not_le.mp hl⟩, hx]
theorem bst_ge {day : Int32} {M : Nat → Nat → Int32} {name port key x : Int32} {j : Nat} (hx : its M j key = x) (hl : bst day M name port key j ≤ x) : bst day M name port key (j + 1) = bst day M name port key j := by
  rw [bst, if_neg (fun z => by rw [hx] at z; exact Int32.not_lt.mpr hl z.2)]
theorem its_2 {M : Nat → Nat → Int32} {j : Nat} {key : Int32} (h : M 5 j = key) : its M j key = 2 := by rw [its, if_pos h]
theorem its_3 {M : Nat → Nat → Int32} {j : Nat} {key : Int32} (h : ¬ M 5 j = key) (h2 : M 5 j % 3 = key % 3) : its M j key = 3 := by rw [its, if_neg h, if_pos h2]
theorem its_4 {M : Nat → Nat → Int32} {j : Nat} {key : Int32} (h : ¬ M 5 j = key) (h2 : ¬ M 5 j % 3 = key % 3) : its M j key = 4 := by rw [its, if_neg h, if_neg h2]
theorem jg_n0 {day : Int32} {M : Nat → Nat → Int32} {n ns : Nat} {name port key : Int32} (h : anyN (ln day M 1 key true name port) n = true) : jg day M n ns name port key none = 0 := by
  rw [jg, if_pos (Or.inl h)]
theorem jg_n1 {day : Int32} {M : Nat → Nat → Int32} {n ns : Nat} {name port key : Int32} (h : anyN (ln day M 1 key true name port) n = false) : jg day M n ns name port key none = bst day M name port key n := by
  rw [jg, if_neg, if_neg]
  · rintro ⟨c, hc, -⟩; cases hc
  · rintro (z | ⟨c, hc, -⟩)
    · rw [h] at z; exact absurd z (by decide)
    · cases hc
theorem jg_c0 {day : Int32} {M : Nat → Nat → Int32} {n ns c : Nat} {name port key : Int32} (h : anyN (ln day M 1 key true name port) n = true ∨ anyN (ln day M 1 (M 18 c) true name port) n = true) : jg day M n ns name port key (some c) = 0 := by
  rw [jg, if_pos]
  rcases h with h | h
  · exact Or.inl h
  · exact Or.inr ⟨c, rfl, h⟩
theorem jg_c1 {day : Int32} {M : Nat → Nat → Int32} {n ns c : Nat} {name port key : Int32} (h1 : anyN (ln day M 1 key true name port) n = false) (h2 : anyN (ln day M 1 (M 18 c) true name port) n = false) (h3 : M 19 c = key) (h4 : gd day M n ns c name port = true) : jg day M n ns name port key (some c) = 1 := by
  rw [jg, if_neg, if_pos ⟨c, rfl, h3, h4⟩]
  rintro (z | ⟨d, hd, z⟩)
  · rw [h1] at z; exact absurd z (by decide)
  · cases hd; rw [h2] at z; exact absurd z (by decide)
theorem jg_c2 {day : Int32} {M : Nat → Nat → Int32} {n ns c : Nat} {name port key : Int32} (h1 : anyN (ln day M 1 key true name port) n = false) (h2 : anyN (ln day M 1 (M 18 c) true name port) n = false) (h3 : ¬ (M 19 c = key ∧ gd day M n ns c name port = true)) : jg day M n ns name port key (some c) = bst day M name port key n := by
  rw [jg, if_neg, if_neg]
  · rintro ⟨d, hd, z⟩; cases hd; exact h3 z
  · rintro (z | ⟨d, hd, z⟩)
    · rw [h1] at z; exact absurd z (by decide)
    · cases hd; rw [h2] at z; exact absurd z (by decide)
/-! a certificate's number, or none -/
def okC (ct : Int32) (nc : Nat) : Bool := decide (ct = -1) || inL ct nc
theorem okC_eq {ct : Int32} {nc : Nat} (hn : nc < 2 ^ 31) : inR ct (-1) (nI nc - 1) = okC ct nc := by
  unfold okC
  by_cases h : ct = -1
  · subst h
    rw [decide_eq_true rfl, Bool.true_or, dN_pred]
    unfold inR
    rw [show decide ((-1 : Int32) ≤ -1) = true from rfl, Bool.true_and]
    cases nc with
    | zero => rfl
    | succ k => exact decide_eq_true (Int32.le_trans (show (-1 : Int32) ≤ 0 by decide) (nI_pos' (by omega)))
  · rw [decide_eq_false h, Bool.false_or, ← inR_L hn]
    unfold inR
    by_cases h0 : ct < 0
    · have h1 : ¬ (-1 : Int32) ≤ ct := fun z => by
        have a1 := Int32.lt_iff_toInt_lt.mp h0
        have a2 := Int32.le_iff_toInt_le.mp z
        exact h (Int32.toInt_inj.mp (by simp at a1 a2 ⊢; omega))
      rw [decide_eq_false h1, decide_eq_false (Int32.not_le.mpr h0), Bool.false_and]
    · rw [decide_eq_true (Int32.not_lt.mp h0), decide_eq_true (Int32.le_trans (show (-1 : Int32) ≤ 0 by decide) (Int32.not_lt.mp h0))]
theorem nI_nm1 {c : Nat} (h : c < 2 ^ 31) : ¬ nI c = -1 := fun z => nI_pos h (by rw [z]; decide)
/-! an answer's state -/
theorem aSee_at {b : Nat → Bool} {d : Int32} {M : Nat → Nat → Int32} : ∀ j f x, aSee b d M j f x = if f = 7 ∧ x < j ∧ b x = true then d else M f x := by
  intro j
  induction j with
  | zero => intro f x; rw [if_neg (by omega)]; rfl
  | succ j ih =>
    intro f x
    by_cases hb : b j = true
    · rw [aSee_s1 hb, u2_at]
      by_cases hc : f = 7 ∧ x = j
      · rw [if_pos hc, if_pos ⟨hc.1, by omega, by rw [hc.2]; exact hb⟩]
      · rw [if_neg hc, ih]
        by_cases h1 : f = 7 ∧ x < j ∧ b x = true
        · rw [if_pos h1, if_pos ⟨h1.1, by omega, h1.2.2⟩]
        · rw [if_neg h1, if_neg (fun z => h1 ⟨z.1, by omega, z.2.2⟩)]
    · rw [aSee_s0 (by simpa using hb), ih]
      by_cases h1 : f = 7 ∧ x < j ∧ b x = true
      · rw [if_pos h1, if_pos ⟨h1.1, by omega, h1.2.2⟩]
      · rw [if_neg h1, if_neg (fun z => h1 ⟨z.1, by
          rcases Nat.lt_or_ge x j with w | w
          · exact w
          · have : x = j := by omega
            rw [this] at z; exact absurd z.2.2 hb, z.2.2⟩)]
theorem seeB_see {b : Nat → Bool} {d : Int32} {M : Nat → Nat → Int32} {n : Nat} {day key au name port : Int32} {i : Nat} : seeB (aSee b d M n) day key au name port i = seeB M day key au name port i := by
  unfold seeB
  rw [aSee_mt, aSee_f (by decide), aSee_f (by decide), aSee_f (by decide)]
theorem aSee_two {M : Nat → Nat → Int32} {n : Nat} {day key au name port : Int32} : aSee (seeB (aSee (seeB M day key key name port) day M n) day au au name port) day (aSee (seeB M day key key name port) day M n) n = aSee (seeB M day key au name port) day M n := by
  funext f x
  rw [aSee_at, aSee_at, aSee_at, seeB_see]
  have e : seeB M day key au name port x = (seeB M day key key name port x || seeB M day au au name port x) := by
    rw [seeB_1, seeB_1]
    unfold seeB
    generalize decide (M 6 x = 1) = a
    generalize en day (M 8 x) = b
    generalize decide (M 5 x = key) = c
    generalize decide (M 5 x = au) = d
    generalize mt M x name port = e
    cases a <;> cases b <;> cases c <;> cases d <;> cases e <;> rfl
  rw [e]
  by_cases h : f = 7 ∧ x < n
  · obtain ⟨h1, h2⟩ := h
    subst h1
    cases seeB M day key key name port x <;> cases seeB M day au au name port x <;> simp [h2]
  · rw [if_neg (fun z => h ⟨z.1, z.2.1⟩), if_neg (fun z => h ⟨z.1, z.2.1⟩), if_neg (fun z => h ⟨z.1, z.2.1⟩)]
theorem ansE_see {sc : Nat → Int32} {M : Nat → Nat → Int32} {n : Nat} {its au name port key w : Int32} (h4 : sc 4 = nI n) (hi : its = 1 ∨ its = 2) (hw : w = -1) : scN (aW sc its name port key) (aAns sc M n its au name port key).2 = aWait sc name port w ∧ (aAns sc M n its au name port key).1 = aSee (seeB M (sc 1) key au name port) (sc 1) M n := by
  have e3 : ¬ (its = 4 ∨ (its = 5 ∧ sc 2 = 1)) := fun z => by
    rcases hi with rfl | rfl
    · exact z.elim (fun w => absurd w (by decide)) (fun w => absurd w.1 (by decide))
    · exact z.elim (fun w => absurd w (by decide)) (fun w => absurd w.1 (by decide))
  unfold aAns aW
  rw [if_pos hi, if_neg e3, hw]
  exact ⟨scN_self (by rw [aWait_ne (by decide)]; exact h4), rfl⟩
theorem ansE_new {sc : Nat → Int32} {M : Nat → Nat → Int32} {n : Nat} {its au name port key w : Int32} (hi : its = 5) (h0 : sc 2 = 0) (hn : n < 40) (hw : w = -1) : scN (aW sc its name port key) (aAns sc M n its au name port key).2 = scN (aWait sc name port w) (n + 1) ∧ (aAns sc M n its au name port key).1 = aTr sc M n name port key := by
  subst hi
  have e1 : ¬ ((5 : Int32) = 1 ∨ (5 : Int32) = 2) := by decide
  have e2 : (5 : Int32) = 5 ∧ sc 2 = 0 ∧ n < 40 := ⟨rfl, h0, hn⟩
  have e3 : ¬ ((5 : Int32) = 4 ∨ ((5 : Int32) = 5 ∧ sc 2 = 1)) := by rw [h0]; decide
  unfold aAns aW
  rw [if_neg e1, if_pos e2, if_neg e3, hw]
  exact ⟨rfl, rfl⟩
theorem ansE_no {sc : Nat → Int32} {M : Nat → Nat → Int32} {n : Nat} {its au name port key w : Int32} (h4 : sc 4 = nI n) (h1 : ¬ its = 1) (h2 : ¬ its = 2) (h5 : ¬ (its = 5 ∧ sc 2 = 0 ∧ n < 40)) (hw : w = if its = 4 ∨ (its = 5 ∧ sc 2 = 1) then key else -1) : scN (aW sc its name port key) (aAns sc M n its au name port key).2 = aWait sc name port w ∧ (aAns sc M n its au name port key).1 = M := by
  have e1 : ¬ (its = 1 ∨ its = 2) := fun z => z.elim h1 h2
  unfold aAns aW
  rw [if_neg e1, if_neg h5, ← hw]
  exact ⟨scN_self (by rw [aWait_ne (by decide)]; exact h4), rfl⟩
theorem tlE_m0 {d : Int32} : tlE (-1) d = d := by rw [tlE, if_pos (Or.inl rfl)]
theorem tlE_m1 {e d : Int32} (h1 : ¬ e = -1) (h2 : e < d) : tlE e d = e := by rw [tlE, if_neg (fun z => z.elim h1 (fun w => Int32.lt_irrefl (Int32.lt_trans w h2)))]
theorem tlE_m2 {e d : Int32} (h2 : d ≤ e) : tlE e d = d := by
  unfold tlE
  split
  · rfl
  · rename_i h
    exact Int32.le_antisymm (Int32.not_lt.mp (fun z => h (Or.inr z))) h2
theorem ansM_see {S : hS} {md : Nat} {ar : Nat → Nat} {sc : Nat → Int32} {M : Nat → Nat → Int32} {n : Nat} {its au name port key : Int32} (h4 : sc 4 = nI n) (hi : its = 1 ∨ its = 2) (hM : mS S md ar (aWait sc name port (-1)) (aSee (seeB M (sc 1) key au name port) (sc 1) M n)) : mS S md ar (scN (aW sc its name port key) (aAns sc M n its au name port key).2) (aAns sc M n its au name port key).1 := by
  obtain ⟨z1, z2⟩ := ansE_see (M := M) (au := au) (name := name) (port := port) (key := key) h4 hi rfl
  rw [z1, z2]
  exact hM
theorem ansM_see2 {S : hS} {md : Nat} {ar : Nat → Nat} {sc : Nat → Int32} {M : Nat → Nat → Int32} {n : Nat} {its au name port key : Int32} (h4 : sc 4 = nI n) (hi : its = 1 ∨ its = 2) (hM : mS S md ar (aWait sc name port (-1)) (aSee (seeB (aSee (seeB M (sc 1) key key name port) (sc 1) M n) (sc 1) au au name port) (sc 1) (aSee (seeB M (sc 1) key key name port) (sc 1) M n) n)) : mS S md ar (scN (aW sc its name port key) (aAns sc M n its au name port key).2) (aAns sc M n its au name port key).1 := by
  rw [aSee_two] at hM
  exact ansM_see h4 hi hM
theorem ansM_new {S : hS} {md : Nat} {ar : Nat → Nat} {sc : Nat → Int32} {M : Nat → Nat → Int32} {n : Nat} {its au name port key : Int32} (hi : its = 5) (h0 : sc 2 = 0) (hn : n < 40) (hM : mS S md ar (scN (aWait sc name port (-1)) (n + 1)) (aTr sc M n name port key)) : mS S md ar (scN (aW sc its name port key) (aAns sc M n its au name port key).2) (aAns sc M n its au name port key).1 := by
  obtain ⟨z1, z2⟩ := ansE_new (M := M) (au := au) (name := name) (port := port) (key := key) hi h0 hn rfl
  rw [z1, z2]
  exact hM
theorem ansM_no {S : hS} {md : Nat} {ar : Nat → Nat} {sc : Nat → Int32} {M : Nat → Nat → Int32} {n : Nat} {its au name port key : Int32} (w : Int32) (h4 : sc 4 = nI n) (h1 : ¬ its = 1) (h2 : ¬ its = 2) (h5 : ¬ (its = 5 ∧ sc 2 = 0 ∧ n < 40)) (hw : w = if its = 4 ∨ (its = 5 ∧ sc 2 = 1) then key else -1) (hM : mS S md ar (aWait sc name port w) M) : mS S md ar (scN (aW sc its name port key) (aAns sc M n its au name port key).2) (aAns sc M n its au name port key).1 := by
  obtain ⟨z1, z2⟩ := ansE_no (M := M) (au := au) (name := name) (port := port) (key := key) (w := w) h4 h1 h2 h5 hw
  rw [z1, z2]
  exact hM
theorem wkA {its key : Int32} {sc : Nat → Int32} (h1 : its = 5) (h2 : sc 2 = 1) : key = if its = 4 ∨ (its = 5 ∧ sc 2 = 1) then key else -1 := (if_pos (Or.inr ⟨h1, h2⟩)).symm
theorem wkB {its key : Int32} {sc : Nat → Int32} (h1 : its = 4) : key = if its = 4 ∨ (its = 5 ∧ sc 2 = 1) then key else -1 := (if_pos (Or.inl h1)).symm
theorem wkC {its key : Int32} {sc : Nat → Int32} (h1 : ¬ its = 4) (h2 : ¬ sc 2 = 1) : (-1 : Int32) = if its = 4 ∨ (its = 5 ∧ sc 2 = 1) then key else -1 := (if_neg (fun z => z.elim h1 (fun y => h2 y.2))).symm
theorem wkD {its key : Int32} {sc : Nat → Int32} (h1 : ¬ its = 4) (h2 : ¬ its = 5) : (-1 : Int32) = if its = 4 ∨ (its = 5 ∧ sc 2 = 1) then key else -1 := (if_neg (fun z => z.elim h1 (fun y => h2 y.1))).symm
theorem n5A {its : Int32} {n : Nat} {sc : Nat → Int32} (h : ¬ its = 5) : ¬ (its = 5 ∧ sc 2 = 0 ∧ n < 40) := fun z => h z.1
theorem n5B {its : Int32} {n : Nat} {sc : Nat → Int32} (h : ¬ sc 2 = 0) : ¬ (its = 5 ∧ sc 2 = 0 ∧ n < 40) := fun z => h z.2.1
theorem n5C {its : Int32} {n : Nat} {sc : Nat → Int32} (h : (40 : Int32) ≤ nI n) : ¬ (its = 5 ∧ sc 2 = 0 ∧ n < 40) := fun z => Int32.not_le.mpr (show nI n < nI 40 from nI_lt z.2.2 (by decide)) h
theorem xI {its a b : Int32} {P : Prop} (hab : ¬ a = b) (h1 : its = a) (h2 : its = b) : P := absurd (h1.symm.trans h2) hab
