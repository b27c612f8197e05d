theorem scN_scN (sc : Nat → Int32) (a b : Nat) : scN (scN sc a) b = scN sc b := by
  funext x
  unfold scN va_up
  by_cases h : x = 4
  · rw [if_pos h, if_pos h]
  · rw [if_neg h, if_neg h, if_neg h]
theorem scN_self {sc : Nat → Int32} {n : Nat} (h : sc 4 = nI n) : scN sc n = sc := by
  funext x
  unfold scN va_up
  by_cases hx : x = 4
  · rw [if_pos hx, hx, h]
  · rw [if_neg hx]
theorem scN_ne {sc : Nat → Int32} {n x : Nat} (h : x ≠ 4) : scN sc n x = sc x := va_up_ne _ _ h
theorem uF_self (S : hS) (k a : Nat) : uF S k a (sF S k a) = S := by
  have e : u2 (sF S) k a (sF S k a) = sF S := by
    funext x y
    rw [u2_at]
    by_cases h : x = k ∧ y = a
    · rw [if_pos h, h.1, h.2]
    · rw [if_neg h]
  unfold uF
  rw [e]
  rfl
theorem endS_eq (S : hS) (a : Nat) (d : Int32) : endS S a d = uF S 13 a (tlE (sF S 13 a) d) := by
  unfold endS tlE
  by_cases h : sF S 13 a = -1 ∨ d < sF S 13 a
  · rw [if_pos h, if_pos h]
  · rw [if_neg h, if_neg h, uF_self]
theorem cC_end {S : hS} {h bk ca sa : Nat} {ad pa : Nat → Nat} {sc : Nat → Int32} {M : Nat → Nat → Int32} {n nc ns j : Nat} {d : Int32} (hG : cG S h bk ca sa ad pa) (hC : cC S h ca sa ad pa sc M n nc ns) (hj : j < n) : cP S (endS S (ad j) d) h bk ca sa ad pa sc (u2 M 8 j (tlE (M 8 j) d)) n nc ns := by
  obtain ⟨pt, k, hL⟩ := hC.2.1 j hj
  rw [endS_eq, hL.1.2.2.2]
  exact cC_fld hG hC hj (Or.inr ⟨rfl, rfl⟩)
theorem nI_sub {a b : Nat} (h : b ≤ a) : nI a - nI b = nI (a - b) := by
  have e : nI a = nI (a - b) + nI b := by rw [nI_add]; exact congrArg nI (by omega)
  rw [e, Int32.add_sub_cancel]
theorem tlS_0 {day name port old other days : Int32} {j n : Nat} {M : Nat → Nat → Int32} (h : tlB M day old name port j = false) : tlS day name port old other days j (M, n) = (M, n) := by
  unfold tlS
  rw [if_neg (fun z => by have := z.2; rw [h] at this; exact absurd this (by decide))]
theorem tlS_1 {day name port old other days : Int32} {j n : Nat} {M : Nat → Nat → Int32} (hn : n < 40) (h : tlB M day old name port j = true) : tlS day name port old other days j (M, n) = (u2 (aLike (aAdd M n 0 other day) n j) 8 j (tlE (M 8 j) (day + days)), n + 1) := by
  unfold tlS
  rw [if_pos ⟨hn, h⟩]
theorem cl_s0 {day days : Int32} {k n : Nat} {M : Nat → Nat → Int32} (h : clB M day days k = false) : cl day days (k + 1) (M, n) = cl day days k (M, n) := by
  rw [cl, clS, if_neg (fun z => by rw [h] at z; exact absurd z (by decide))]
theorem cl_s1 {day days : Int32} {k n : Nat} {M : Nat → Nat → Int32} (h : clB M day days k = true) : cl day days (k + 1) (M, n + 1) = cl day days k (aRem M k (n + 1), n) := by
  rw [cl, clS, if_pos h]
  rfl
theorem isB_ln {S : hS} {a pa i k : Nat} {pt : Nat → Nat} {M : Nat → Nat → Int32} (h : lnR S a pa pt M i k) : isB (sF S 16 a) := by
  rcases h.2.2.1 with ⟨h1, -⟩ | ⟨h1, -⟩
  · exact Or.inr h1
  · exact Or.inl h1
/-! an answer: what it leaves -/
def aAns (sc : Nat → Int32) (M : Nat → Nat → Int32) (n : Nat) (its au name port key : Int32) : (Nat → Nat → Int32) × Nat :=
  if its = 1 ∨ its = 2 then (aSee (seeB M (sc 1) key au name port) (sc 1) M n, n) else if its = 5 ∧ sc 2 = 0 ∧ n < 40 then (aTr sc M n name port key, n + 1) else (M, n)
def aW (sc : Nat → Int32) (its name port key : Int32) : Nat → Int32 := aWait sc name port (if its = 4 ∨ (its = 5 ∧ sc 2 = 1) then key else -1)
theorem aWait_ne {sc : Nat → Int32} {name port key : Int32} {x : Nat} (h : x < 29) : aWait sc name port key x = sc x := by
  unfold aWait
  rw [va_up_ne _ _ (by omega), va_up_ne _ _ (by omega), va_up_ne _ _ (by omega)]
theorem aWait_aWait (sc : Nat → Int32) (name port k1 k2 : Int32) : aWait (aWait sc name port k1) name port k2 = aWait sc name port k2 := by
  funext x
  unfold aWait va_up
  by_cases h1 : x = 31
  · simp [h1]
  · by_cases h2 : x = 30
    · simp [h2]
    · by_cases h3 : x = 29
      · simp [h3]
      · simp [h1, h2, h3]
theorem aTr_congr {sc sc' : Nat → Int32} {M : Nat → Nat → Int32} {n : Nat} {name port key : Int32} (h1 : sc' 1 = sc 1) (h3 : sc' 3 = sc 3) : aTr sc' M n name port key = aTr sc M n name port key := by
  unfold aTr
  rw [h1, h3]
theorem ans_see {S S1 S2 : hS} {h bk ca sa : Nat} {ad pa : Nat → Nat} {sc : Nat → Int32} {M : Nat → Nat → Int32} {n nc ns : Nat} {its au name port key : Int32} (h4 : sc 4 = nI n) (hc : clF S S1) (hi : its = 1 ∨ its = 2)
    (hP : cP S1 S2 h bk ca sa ad pa (aWait sc name port (-1)) (aSee (seeB M (aWait sc name port (-1) 1) key au name port) (aWait sc name port (-1) 1) M n) n nc ns) :
    cP S S2 h bk ca sa ad pa (scN (aW sc its name port key) (aAns sc M n its au name port key).2) (aAns sc M n its au name port key).1 (aAns sc M n its au name port key).2 nc ns := by
  rw [aWait_ne (by decide)] at hP
  have e3 : ¬ (its = 4 ∨ (its = 5 ∧ sc 2 = 1)) := fun z => by
    rcases hi with rfl | rfl
    · exact z.elim (fun w => absurd w (by decide)) (fun w => absurd w.1 (by decide))
    · exact z.elim (fun w => absurd w (by decide)) (fun w => absurd w.1 (by decide))
  unfold aAns aW
  rw [if_pos hi, if_neg e3, scN_self (by rw [aWait_ne (by decide)]; exact h4)]
  exact ⟨hP.1, hP.2.1, hc.trans hP.2.2⟩
theorem ans_wait {S S1 S2 : hS} {h bk ca sa : Nat} {ad pa : Nat → Nat} {sc : Nat → Int32} {M : Nat → Nat → Int32} {n nc ns : Nat} {its au name port key : Int32} (h4 : sc 4 = nI n) (hc : clF S S1) (h1 : ¬ its = 1) (h2 : ¬ its = 2) (hi : its = 4 ∨ (its = 5 ∧ sc 2 = 1))
    (hP : cP S1 S2 h bk ca sa ad pa (aWait (aWait sc name port (-1)) name port key) M n nc ns) :
    cP S S2 h bk ca sa ad pa (scN (aW sc its name port key) (aAns sc M n its au name port key).2) (aAns sc M n its au name port key).1 (aAns sc M n its au name port key).2 nc ns := by
  rw [aWait_aWait] at hP
  unfold aAns aW
  have h5 : ¬ (its = 5 ∧ sc 2 = 0 ∧ n < 40) := fun z => by
    rcases hi with h | h
    · rw [z.1] at h; exact absurd h (by decide)
    · rw [z.2.1] at h; exact absurd h.2 (by decide)
  have e1 : ¬ (its = 1 ∨ its = 2) := fun z => z.elim h1 h2
  rw [if_neg e1, if_neg h5, if_pos hi, scN_self (by rw [aWait_ne (by decide)]; exact h4)]
  exact ⟨hP.1, hP.2.1, hc.trans hP.2.2⟩
theorem ans_new {S S1 S2 : hS} {h bk ca sa : Nat} {ad pa : Nat → Nat} {sc : Nat → Int32} {M : Nat → Nat → Int32} {n nc ns : Nat} {its au name port key : Int32} (hc : clF S S1) (hi : its = 5) (h0 : sc 2 = 0) (hn : n < 40)
    (hP : cP S1 S2 h bk ca sa ad pa (scN (aWait sc name port (-1)) (n + 1)) (aTr (aWait sc name port (-1)) M n name port key) (n + 1) nc ns) :
    cP S S2 h bk ca sa ad pa (scN (aW sc its name port key) (aAns sc M n its au name port key).2) (aAns sc M n its au name port key).1 (aAns sc M n its au name port key).2 nc ns := by
  rw [aTr_congr (sc := sc) (aWait_ne (by decide)) (aWait_ne (by decide))] at hP
  subst hi
  unfold aAns aW
  have e1 : ¬ ((5 : Int32) = 1 ∨ (5 : Int32) = 2) := by decide
  have e2 : (5 : Int32) = 5 ∧ sc 2 = 0 ∧ n < 40 := ⟨rfl, h0, hn⟩
  have e3 : ¬ ((5 : Int32) = 4 ∨ ((5 : Int32) = 5 ∧ sc 2 = 1)) := by rw [h0]; decide
  rw [if_neg e1, if_pos e2, if_neg e3]
  exact ⟨hP.1, hP.2.1, hc.trans hP.2.2⟩
theorem ans_no {S S1 : hS} {h bk ca sa : Nat} {ad pa : Nat → Nat} {sc : Nat → Int32} {M : Nat → Nat → Int32} {n nc ns : Nat} {its au name port key : Int32} (h4 : sc 4 = nI n) (h1 : ¬ its = 1) (h2 : ¬ its = 2) (h3 : ¬ (its = 4 ∨ (its = 5 ∧ sc 2 = 1))) (h5 : ¬ (its = 5 ∧ sc 2 = 0 ∧ n < 40))
    (hP : cP S S1 h bk ca sa ad pa (aWait sc name port (-1)) M n nc ns) :
    cP S S1 h bk ca sa ad pa (scN (aW sc its name port key) (aAns sc M n its au name port key).2) (aAns sc M n its au name port key).1 (aAns sc M n its au name port key).2 nc ns := by
  unfold aAns aW
  have e1 : ¬ (its = 1 ∨ its = 2) := fun z => z.elim h1 h2
  rw [if_neg e1, if_neg h5, if_neg h3, scN_self (by rw [aWait_ne (by decide)]; exact h4)]
  exact hP
theorem dN_pred (n : Nat) : nI n - 1 = dN n := by
  cases n with
  | zero => decide
  | succ n => exact nI_pred n
theorem tl_s0 {day name port old other days : Int32} {T : (Nat → Nat → Int32) × Nat} {j n : Nat} {M : Nat → Nat → Int32} (hT : tl day name port old other days T j = (M, n)) (h : tlB M day old name port j = false) : tl day name port old other days T (j + 1) = (M, n) := by
  rw [tl, hT, tlS_0 h]
theorem tl_s1 {day name port old other days : Int32} {T : (Nat → Nat → Int32) × Nat} {j n : Nat} {M : Nat → Nat → Int32} (hT : tl day name port old other days T j = (M, n)) (hn : n < 40) (h : tlB M day old name port j = true) : tl day name port old other days T (j + 1) = (u2 (aLike (aAdd M n 0 other day) n j) 8 j (tlE (M 8 j) (day + days)), n + 1) := by
  rw [tl, hT, tlS_1 hn h]

