/-! ROWS OF whole'S PARTS 33 TO 43 -/
theorem nI_nm1 {c : Nat} (h : c < 2 ^ 31) : ¬ nI c = -1 := fun z => nI_pos h (by rw [z]; decide)
theorem aSee_at {b : Nat → Bool} {d : Int32} {M : Nat → Nat → Int32} : ∀ j f x, aSee b d M j f x = if f = 7 ∧ x < j ∧ b x = true then d else M f x := by
  intro j
  induction j with
  | zero => intro f x; rw [if_neg (by omega)]; rfl
  | succ j ih =>
    intro f x
    by_cases hb : b j = true
    · rw [aSee_s1 hb, u2_at]
      by_cases hc : f = 7 ∧ x = j
      · rw [if_pos hc, if_pos ⟨hc.1, by omega, by rw [hc.2]; exact hb⟩]
      · rw [if_neg hc, ih]
        by_cases h1 : f = 7 ∧ x < j ∧ b x = true
        · rw [if_pos h1, if_pos ⟨h1.1, by omega, h1.2.2⟩]
        · rw [if_neg h1, if_neg (fun z => h1 ⟨z.1, by omega, z.2.2⟩)]
    · rw [aSee_s0 (by simpa using hb), ih]
      by_cases h1 : f = 7 ∧ x < j ∧ b x = true
      · rw [if_pos h1, if_pos ⟨h1.1, by omega, h1.2.2⟩]
      · rw [if_neg h1, if_neg (fun z => h1 ⟨z.1, by
          rcases Nat.lt_or_ge x j with w | w
          · exact w
          · have : x = j := by omega
            rw [this] at z; exact absurd z.2.2 hb, z.2.2⟩)]
theorem ansE_see {sc : Nat → Int32} {M : Nat → Nat → Int32} {n : Nat} {its au name port key w : Int32} (h4 : sc 4 = nI n) (hi : its = 1 ∨ its = 2) (hw : w = -1) : scN (aW sc its name port key) (aAns sc M n its au name port key).2 = aWait sc name port w ∧ (aAns sc M n its au name port key).1 = aSee (seeB M (sc 1) key au name port) (sc 1) M n := by
  have e3 : ¬ (its = 4 ∨ (its = 5 ∧ sc 2 = 1)) := fun z => by
    rcases hi with rfl | rfl
    · exact z.elim (fun w => absurd w (by decide)) (fun w => absurd w.1 (by decide))
    · exact z.elim (fun w => absurd w (by decide)) (fun w => absurd w.1 (by decide))
  unfold aAns aW
  rw [if_pos hi, if_neg e3, hw]
  exact ⟨scN_self (by rw [aWait_ne (by decide)]; exact h4), rfl⟩
theorem ansE_new {sc : Nat → Int32} {M : Nat → Nat → Int32} {n : Nat} {its au name port key w : Int32} (hi : its = 5) (h0 : sc 2 = 0) (hn : n < 40) (hw : w = -1) : scN (aW sc its name port key) (aAns sc M n its au name port key).2 = scN (aWait sc name port w) (n + 1) ∧ (aAns sc M n its au name port key).1 = aTr sc M n name port key := by
  subst hi
  have e1 : ¬ ((5 : Int32) = 1 ∨ (5 : Int32) = 2) := by decide
  have e2 : (5 : Int32) = 5 ∧ sc 2 = 0 ∧ n < 40 := ⟨rfl, h0, hn⟩
  have e3 : ¬ ((5 : Int32) = 4 ∨ ((5 : Int32) = 5 ∧ sc 2 = 1)) := by rw [h0]; decide
  unfold aAns aW
  rw [if_neg e1, if_pos e2, if_neg e3, hw]
  exact ⟨rfl, rfl⟩
theorem ansE_no {sc : Nat → Int32} {M : Nat → Nat → Int32} {n : Nat} {its au name port key w : Int32} (h4 : sc 4 = nI n) (h1 : ¬ its = 1) (h2 : ¬ its = 2) (h5 : ¬ (its = 5 ∧ sc 2 = 0 ∧ n < 40)) (hw : w = if its = 4 ∨ (its = 5 ∧ sc 2 = 1) then key else -1) : scN (aW sc its name port key) (aAns sc M n its au name port key).2 = aWait sc name port w ∧ (aAns sc M n its au name port key).1 = M := by
  have e1 : ¬ (its = 1 ∨ its = 2) := fun z => z.elim h1 h2
  unfold aAns aW
  rw [if_neg e1, if_neg h5, ← hw]
  exact ⟨scN_self (by rw [aWait_ne (by decide)]; exact h4), rfl⟩
theorem tlE_m0 {d : Int32} : tlE (-1) d = d := by rw [tlE, if_pos (Or.inl rfl)]
theorem tlE_m1 {e d : Int32} (h1 : ¬ e = -1) (h2 : e < d) : tlE e d = e := by rw [tlE, if_neg (fun z => z.elim h1 (fun w => Int32.lt_irrefl (Int32.lt_trans w h2)))]
theorem tlE_m2 {e d : Int32} (h2 : d ≤ e) : tlE e d = d := by
  unfold tlE
  split
  · rfl
  · rename_i h
    exact Int32.le_antisymm (Int32.not_lt.mp (fun z => h (Or.inr z))) h2
theorem xI {its a b : Int32} {P : Prop} (hab : ¬ a = b) (h1 : its = a) (h2 : its = b) : P := absurd (h1.symm.trans h2) hab

theorem aLike_b {M : Nat → Nat → Int32} {i j : Nat} (h : ∀ x, isB (M 16 x)) : ∀ x, isB (aLike M i j 16 x) := fun x => by
  unfold aLike
  rw [if_neg (by omega)]
  split
  · exact h _
  · exact h _
theorem aRem_b {M : Nat → Nat → Int32} {i n : Nat} (h : ∀ x, isB (M 16 x)) : ∀ x, isB (aRem M i n 16 x) := fun x => by
  unfold aRem
  rw [if_neg (by omega)]
  split
  · exact h _
  · exact h _
theorem aAdd_b {M : Nat → Nat → Int32} {n : Nat} {mk key day : Int32} (h : ∀ x, isB (M 16 x)) : ∀ x, isB (aAdd M n mk key day 16 x) := fun x => by
  rw [aAdd_ge (by decide)]
  exact h x
theorem tl_b {M : Nat → Nat → Int32} {n j : Nat} {mk key day v : Int32} (h : ∀ x, isB (M 16 x)) : ∀ x, isB (u2 (aLike (aAdd M n mk key day) n j) 8 j v 16 x) := fun x => by
  rw [u2_ne1 (by decide)]
  exact aLike_b (aAdd_b h) x
theorem tl_8 {M : Nat → Nat → Int32} {n1 j : Nat} {mk key day : Int32} (hj : j ≠ n1) : aLike (aAdd M n1 mk key day) n1 j 8 j = M 8 j := by
  rw [aLike_lo (by decide), aAdd_ne hj]
theorem tlB_eq {M : Nat → Nat → Int32} {day old name port : Int32} {i : Nat} : tlB M day old name port i = (decide (M 6 i = 0) && !en day (M 8 i) && decide (M 5 i = old) && mt M i name port) := rfl
theorem clB_eq' {M : Nat → Nat → Int32} {day days : Int32} {i : Nat} : clB M day days i = (decide (M 6 i = 0) && (en day (M 8 i) || decide (days ≤ day - M 7 i))) := rfl
def mdN (S S' : hS) : Prop := (∀ a k, isO S a k → isO S' a k) ∧ (∀ x a, x < 60 → a ∈ sL S → sF S' x a = sF S x a ∧ sR S' x a = sR S x a) ∧ (∀ a, a ∈ sL S → sN S' a = sN S a ∧ sB S' a = sB S a)
theorem mdN.trans {S T U : hS} (h1 : mdN S T) (h2 : mdN T U) : mdN S U :=
  have hm : ∀ a, a ∈ sL S → a ∈ sL T := fun a ha => (h1.1 a (sK S a) ⟨ha, rfl⟩).1
  ⟨fun a k h => h2.1 a k (h1.1 a k h), fun x a hx ha => ⟨((h2.2.1 x a hx (hm a ha)).1).trans (h1.2.1 x a hx ha).1, ((h2.2.1 x a hx (hm a ha)).2).trans (h1.2.1 x a hx ha).2⟩, fun a ha => ⟨((h2.2.2 a (hm a ha)).1).trans (h1.2.2 a ha).1, ((h2.2.2 a (hm a ha)).2).trans (h1.2.2 a ha).2⟩⟩
theorem mdN_nA {S : hS} {k q n : Nat} (hq : q ∉ sL S) : mdN S (nA S k q n) :=
  ⟨fun _ _ h => isO_nA' h hq, fun x b _ _ => ⟨rfl, rfl⟩, fun a ha => ⟨by rw [sN_nA, if_neg (ne_of_mem ha hq)], by funext j; rw [sB_nA, if_neg (ne_of_mem ha hq)]⟩⟩
theorem imin_r {x y : Int32} (h : y < x) : imin x y = y := if_pos h
theorem imin_l {x y : Int32} (h : x ≤ y) : imin x y = x := if_neg (Int32.not_lt.mpr h)
theorem cG_md {S S' : hS} {h bk ca sa : Nat} {ad pa : Nat → Nat} (hG : cG S h bk ca sa ad pa) (hm : mdN S S') : cG S' h bk ca sa ad pa := by
  obtain ⟨h1, ⟨h2, h3, h4⟩, ⟨h5, h6, h7⟩, ⟨h8, h9, h10⟩, h11, h12, h13⟩ := hG
  refine ⟨hm.1 _ _ h1, ⟨by rw [(hm.2.1 40 h (by decide) h1.1).2]; exact h2, hm.1 _ _ h3, by rw [(hm.2.2 bk h3.1).1]; exact h4⟩, ⟨by rw [(hm.2.1 42 h (by decide) h1.1).2]; exact h5, hm.1 _ _ h6, by rw [(hm.2.2 ca h6.1).1]; exact h7⟩, ⟨by rw [(hm.2.1 44 h (by decide) h1.1).2]; exact h8, hm.1 _ _ h9, by rw [(hm.2.2 sa h9.1).1]; exact h10⟩, fun i hi => ?_, h12, h13⟩
  obtain ⟨g1, g2, g3, g4, g5⟩ := h11 i hi
  exact ⟨by rw [(hm.2.2 bk h3.1).2]; exact g1, hm.1 _ _ g2, by rw [(hm.2.1 14 _ (by decide) g2.1).2]; exact g3, hm.1 _ _ g4, by rw [(hm.2.2 _ g4.1).1]; exact g5⟩
theorem cC_md {S S' : hS} {h bk ca sa : Nat} {ad pa : Nat → Nat} {sc : Nat → Int32} {M : Nat → Nat → Int32} {n nc ns : Nat} (hG : cG S h bk ca sa ad pa) (hC : cC S h ca sa ad pa sc M n nc ns) (hm : mdN S S') : cC S' h ca sa ad pa sc M n nc ns := by
  have hh : ∀ x, x < 60 → sF S' x h = sF S x h := fun x hx => (hm.2.1 x h hx hG.1.1).1
  refine ⟨⟨by rw [hh 41 (by decide)]; exact hC.1.1, hC.1.2⟩, cL_to n hC.2.1 (fun i h1 h2 => h1) (fun i h1 h2 x h3 h4 => (hm.2.1 x _ (by omega) (hG.2.2.2.2.1 i (by have := hC.1.2.2; omega)).2.1.1).1) (fun a ha => ⟨hm.1 _ _ ha, fun x h3 h4 => (hm.2.1 x a (by omega) ha.1).1⟩) (fun i h1 h2 k hk => by rw [(hm.2.2 _ (hG.2.2.2.2.1 i (by have := hC.1.2.2; omega)).2.2.2.1.1).2]) (fun i hi => ⟨fun f _ _ => rfl, fun f k _ _ _ => rfl⟩) (fun z => absurd z (Nat.lt_irrefl n)), ?_⟩
  exact cX_to hC.2.2 hm.1 (fun x a h3 ha => (hm.2.1 x a (by omega) ha).1) (fun x h3 h4 => hh x (by omega)) (fun t _ => by rw [(hm.2.2 ca hG.2.2.1.2.1.1).2]) (fun t _ => by rw [(hm.2.2 sa hG.2.2.2.1.2.1.1).2]) (fun x _ => rfl) (fun f t _ => rfl)
theorem cC_sz {S : hS} {h ca sa : Nat} {ad pa : Nat → Nat} {sc : Nat → Int32} {M : Nat → Nat → Int32} {n nc ns : Nat} (hC : cC S h ca sa ad pa sc M n nc ns) : ∀ i, i < n → ∃ k, k ≤ 4 ∧ M 12 i = nI k := fun i hi => by
  obtain ⟨pt, k, hL⟩ := hC.2.1 i hi
  exact ⟨k, hL.2.1.2.2, hL.2.1.2.1⟩

def jI (sc : Nat → Int32) (M : Nat → Nat → Int32) (n : Nat) : Prop := (∀ i, i < n → okK (M 5 i) = true) ∧ (¬ sc 29 = -1 → okN (sc 30) = true ∧ okK (sc 29) = true) ∧ ∀ x, isB (M 16 x)
theorem jI_key {sc : Nat → Int32} {M : Nat → Nat → Int32} {n : Nat} (h : jI sc M n) : ∀ i, i < n → ¬ M 5 i = -1 := fun i hi z => by
  have := h.1 i hi
  rw [z] at this
  exact absurd this (by decide)
theorem jI_0 : jI sc0 M0 0 := ⟨fun i hi => absurd hi (Nat.not_lt_zero i), fun z => absurd rfl z, fun _ => Or.inl rfl⟩
theorem jI_sc {sc sc' : Nat → Int32} {M : Nat → Nat → Int32} {n : Nat} (h : jI sc M n) (h1 : sc' 29 = sc 29) (h2 : sc' 30 = sc 30) : jI sc' M n := ⟨h.1, by rw [h1, h2]; exact h.2.1, h.2.2⟩
theorem jI_up {sc : Nat → Int32} {M : Nat → Nat → Int32} {n x : Nat} {v : Int32} (h : jI sc M n) (hx : x < 29) : jI (va_up sc x v) M n := jI_sc h (va_up_ne _ _ (by omega)) (va_up_ne _ _ (by omega))
theorem jI_rows {sc : Nat → Int32} {M M' : Nat → Nat → Int32} {n : Nat} (h : jI sc M n) (h5 : M' 5 = M 5) (h16 : M' 16 = M 16) : jI sc M' n := ⟨by rw [h5]; exact h.1, h.2.1, by rw [h16]; exact h.2.2⟩
theorem jI_add {sc : Nat → Int32} {M : Nat → Nat → Int32} {n : Nat} {mk key day : Int32} (h : jI sc M n) (hk : okK key = true) : jI (scN sc (n + 1)) (aAdd M n mk key day) (n + 1) := by
  refine ⟨fun i hi => ?_, by rw [scN_ne (by decide), scN_ne (by decide)]; exact h.2.1, aAdd_b h.2.2⟩
  by_cases hin : i = n
  · subst hin
    have e : aAdd M i mk key day 5 i = key := by
      unfold aAdd
      rw [u2_ne1 (by decide), u2_ne1 (by decide), u2_ne1 (by decide), u2_ne1 (by decide), u2_ne1 (by decide), u2_eq]
    rw [e]
    exact hk
  · rw [aAdd_ne hin]
    exact h.1 i (by omega)
theorem jI_hash {sc : Nat → Int32} {M : Nat → Nat → Int32} {n i : Nat} {name port salt : Int32} (h : jI sc M n) : jI sc (aHash M i name port salt) n := jI_rows h (by unfold aHash; rw [u2_off _ _ _ (by decide), u2_off _ _ _ (by decide), u2_off _ _ _ (by decide)]) (by unfold aHash; rw [u2_off _ _ _ (by decide), u2_off _ _ _ (by decide), u2_off _ _ _ (by decide)])
theorem jI_pat {sc : Nat → Int32} {M : Nat → Nat → Int32} {n i k : Nat} {name places port den : Int32} (h : jI sc M n) (hB : isB den) : jI sc (aPat M i k name places port den) n := by
  refine ⟨?_, h.2.1, fun x => ?_⟩
  · have e : aPat M i k name places port den 5 = M 5 := by
      unfold aPat
      rw [u2_off _ _ _ (by decide), u2_off _ _ _ (by decide), u2_off _ _ _ (by decide), u2_off _ _ _ (by decide), u2_off _ _ _ (by decide)]
    rw [e]
    exact h.1
  · unfold aPat
    rw [u2_ne1 (by decide), u2_at]
    split
    · exact hB
    · rw [u2_ne1 (by decide), u2_ne1 (by decide), u2_ne1 (by decide)]
      exact h.2.2 x
theorem jI_rem {sc : Nat → Int32} {M : Nat → Nat → Int32} {n i : Nat} (h : jI sc M (n + 1)) (hi : i < n + 1) : jI (scN sc n) (aRem M i (n + 1)) n := by
  refine ⟨fun j hj => ?_, by rw [scN_ne (by decide), scN_ne (by decide)]; exact h.2.1, aRem_b h.2.2⟩
  rw [aRem_at (by decide) (by decide) (by omega)]
  exact h.1 _ (rotI_ltn hi (by omega))
theorem jI_cert {sc : Nat → Int32} {M : Nat → Nat → Int32} {n i : Nat} {au key name places serial first last : Int32} (h : jI sc M n) : jI sc (aCert M i au key name places serial first last) n :=
  jI_rows h (by funext x; exact aCert_lo (by omega)) (by funext x; exact aCert_lo (by omega))
theorem jI_span {sc : Nat → Int32} {M : Nat → Nat → Int32} {n i : Nat} {au fr to : Int32} (h : jI sc M n) : jI sc (aSpan M i au fr to) n :=
  jI_rows h (by funext x; exact aSpan_lo (by omega)) (by funext x; exact aSpan_lo (by omega))
theorem jI_sight {sc : Nat → Int32} {M : Nat → Nat → Int32} {n : Nat} {rule b : Int32} (h : jI sc M n) : jI (aSight sc rule b) M n := by
  unfold aSight
  exact jI_up (jI_up h (by decide)) (by decide)
theorem jI_tr {sc sc' : Nat → Int32} {M : Nat → Nat → Int32} {n : Nat} {name port key : Int32} (h : jI sc M n) (hk : okK key = true) : jI (scN sc (n + 1)) (aTr sc' M n name port key) (n + 1) := by
  unfold aTr
  split
  · exact jI_pat (jI_add h hk) (Or.inl rfl)
  · exact jI_hash (jI_add h hk)
theorem jI_see {sc : Nat → Int32} {b : Nat → Bool} {d : Int32} {M : Nat → Nat → Int32} {n m : Nat} (h : jI sc M n) : jI sc (aSee b d M m) n := jI_rows h (aSee_f (by decide) m) (aSee_f (by decide) m)
theorem jI_wait {sc : Nat → Int32} {M : Nat → Nat → Int32} {n : Nat} {name port key : Int32} (h : jI sc M n) (hk : ¬ key = -1 → okN name = true ∧ okK key = true) : jI (aWait sc name port key) M n := by
  refine ⟨h.1, ?_, h.2.2⟩
  unfold aWait
  rw [va_up_ne _ _ (by decide), va_up_ne _ _ (by decide), va_up_self, va_up_ne _ _ (by decide), va_up_self]
  exact hk
theorem jI_none {sc : Nat → Int32} {M : Nat → Nat → Int32} {n : Nat} (h : jI sc M n) : jI (va_up sc 29 (-1)) M n := ⟨h.1, fun z => absurd (va_up_self _ _ _) z, h.2.2⟩
theorem jI_tl {sc : Nat → Int32} {M : Nat → Nat → Int32} {n : Nat} {day name port old other days : Int32} (h : jI sc M n) (hk : okK other = true) : ∀ j, jI (scN sc (tl day name port old other days (M, n) j).2) (tl day name port old other days (M, n) j).1 (tl day name port old other days (M, n) j).2 := by
  intro j
  induction j with
  | zero => exact ⟨h.1, by rw [scN_ne (by decide), scN_ne (by decide)]; exact h.2.1, h.2.2⟩
  | succ j ih =>
    rw [tl]
    generalize tl day name port old other days (M, n) j = T at ih
    unfold tlS
    split
    · obtain ⟨a1, a2, a3⟩ := jI_add (mk := 0) (day := day) ih hk
      rw [scN_scN] at a2
      refine ⟨fun i hi => ?_, a2, tl_b (v := tlE (T.1 8 j) (day + days)) ih.2.2⟩
      show okK (u2 (aLike (aAdd T.1 T.2 0 other day) T.2 j) 8 j (tlE (T.1 8 j) (day + days)) 5 i) = true
      rw [u2_ne1 (by decide), aLike_lo (by decide)]
      exact a1 i hi
    · exact ih
theorem jI_cl {sc : Nat → Int32} {day days : Int32} : ∀ (k n : Nat) (M : Nat → Nat → Int32), k ≤ n → jI (scN sc n) M n → jI (scN sc (cl day days k (M, n)).2) (cl day days k (M, n)).1 (cl day days k (M, n)).2 := by
  intro k
  induction k with
  | zero => intro n M _ h; exact h
  | succ k ih =>
    intro n M hk h
    obtain ⟨n0, rfl⟩ : ∃ n0, n = n0 + 1 := ⟨n - 1, by omega⟩
    cases hc : clB M day days k with
    | false => rw [cl_s0 hc]; exact ih _ _ (by omega) h
    | true =>
      rw [cl_s1 hc]
      have h2 := jI_rem h (show k < n0 + 1 by omega)
      rw [scN_scN] at h2
      exact ih _ _ (by omega) h2
theorem jI_ans {sc : Nat → Int32} {M : Nat → Nat → Int32} {n : Nat} {its au name port key : Int32} (h : jI sc M n) (h4 : sc 4 = nI n) (hN : okN name = true) (hK : okK key = true) : jI (scN (aW sc its name port key) (aAns sc M n its au name port key).2) (aAns sc M n its au name port key).1 (aAns sc M n its au name port key).2 := by
  have hw : jI (aW sc its name port key) M n := by
    unfold aW
    refine jI_wait h ?_
    by_cases hc : its = 4 ∨ (its = 5 ∧ sc 2 = 1)
    · rw [if_pos hc]; exact fun _ => ⟨hN, hK⟩
    · rw [if_neg hc]; exact fun z => absurd rfl z
  have hw4 : aW sc its name port key 4 = nI n := by unfold aW; rw [aWait_ne (by decide)]; exact h4
  have hs : ∀ j, jI (scN (aW sc its name port key) j) M n := fun j => jI_sc hw (scN_ne (by decide)) (scN_ne (by decide))
  unfold aAns
  split
  · exact jI_see (hs n)
  · split
    · exact jI_tr (sc' := sc) (name := name) (port := port) hw hK
    · exact hs n

