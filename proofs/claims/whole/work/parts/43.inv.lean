/-! WHAT HOLDS ALL ALONG A RUN: the keys of the lines, what waits, the marks of denied patterns -/
def jI (sc : Nat → Int32) (M : Nat → Nat → Int32) (n : Nat) : Prop := (∀ i, i < n → okK (M 5 i) = true) ∧ (¬ sc 29 = -1 → okN (sc 30) = true ∧ okK (sc 29) = true) ∧ ∀ x, isB (M 16 x)
theorem jI_key {sc : Nat → Int32} {M : Nat → Nat → Int32} {n : Nat} (h : jI sc M n) : ∀ i, i < n → ¬ M 5 i = -1 := fun i hi z => by
  have := h.1 i hi
  rw [z] at this
  exact absurd this (by decide)
theorem jI_0 : jI sc0 M0 0 := ⟨fun i hi => absurd hi (Nat.not_lt_zero i), fun z => absurd rfl z, fun _ => Or.inl rfl⟩
theorem jI_sc {sc sc' : Nat → Int32} {M : Nat → Nat → Int32} {n : Nat} (h : jI sc M n) (h1 : sc' 29 = sc 29) (h2 : sc' 30 = sc 30) : jI sc' M n := ⟨h.1, by rw [h1, h2]; exact h.2.1, h.2.2⟩
theorem jI_up {sc : Nat → Int32} {M : Nat → Nat → Int32} {n x : Nat} {v : Int32} (h : jI sc M n) (hx : x < 29) : jI (va_up sc x v) M n := jI_sc h (va_up_ne _ _ (by omega)) (va_up_ne _ _ (by omega))
theorem jI_rows {sc : Nat → Int32} {M M' : Nat → Nat → Int32} {n : Nat} (h : jI sc M n) (h5 : M' 5 = M 5) (h16 : M' 16 = M 16) : jI sc M' n := ⟨by rw [h5]; exact h.1, h.2.1, by rw [h16]; exact h.2.2⟩
theorem jI_add {sc : Nat → Int32} {M : Nat → Nat → Int32} {n : Nat} {mk key day : Int32} (h : jI sc M n) (hk : okK key = true) : jI (scN sc (n + 1)) (aAdd M n mk key day) (n + 1) := by
  refine ⟨fun i hi => ?_, by rw [scN_ne (by decide), scN_ne (by decide)]; exact h.2.1, aAdd_b h.2.2⟩
  by_cases hin : i = n
  · subst hin
    have e : aAdd M i mk key day 5 i = key := by
      unfold aAdd
      rw [u2_ne1 (by decide), u2_ne1 (by decide), u2_ne1 (by decide), u2_ne1 (by decide), u2_ne1 (by decide), u2_eq]
    rw [e]
    exact hk
  · rw [aAdd_ne hin]
    exact h.1 i (by omega)
theorem jI_hash {sc : Nat → Int32} {M : Nat → Nat → Int32} {n i : Nat} {name port salt : Int32} (h : jI sc M n) : jI sc (aHash M i name port salt) n := jI_rows h (by unfold aHash; rw [u2_off _ _ _ (by decide), u2_off _ _ _ (by decide), u2_off _ _ _ (by decide)]) (by unfold aHash; rw [u2_off _ _ _ (by decide), u2_off _ _ _ (by decide), u2_off _ _ _ (by decide)])
theorem jI_pat {sc : Nat → Int32} {M : Nat → Nat → Int32} {n i k : Nat} {name places port den : Int32} (h : jI sc M n) (hB : isB den) : jI sc (aPat M i k name places port den) n := by
  refine ⟨?_, h.2.1, fun x => ?_⟩
  · have e : aPat M i k name places port den 5 = M 5 := by
      unfold aPat
      rw [u2_off _ _ _ (by decide), u2_off _ _ _ (by decide), u2_off _ _ _ (by decide), u2_off _ _ _ (by decide), u2_off _ _ _ (by decide)]
    rw [e]
    exact h.1
  · unfold aPat
    rw [u2_ne1 (by decide), u2_at]
    split
    · exact hB
    · rw [u2_ne1 (by decide), u2_ne1 (by decide), u2_ne1 (by decide)]
      exact h.2.2 x
theorem jI_rem {sc : Nat → Int32} {M : Nat → Nat → Int32} {n i : Nat} (h : jI sc M (n + 1)) (hi : i < n + 1) : jI (scN sc n) (aRem M i (n + 1)) n := by
  refine ⟨fun j hj => ?_, by rw [scN_ne (by decide), scN_ne (by decide)]; exact h.2.1, aRem_b h.2.2⟩
  rw [aRem_at (by decide) (by decide) (by omega)]
  exact h.1 _ (rotI_ltn hi (by omega))
theorem jI_cert {sc : Nat → Int32} {M : Nat → Nat → Int32} {n i : Nat} {au key name places serial first last : Int32} (h : jI sc M n) : jI sc (aCert M i au key name places serial first last) n :=
  jI_rows h (by funext x; exact aCert_lo (by omega)) (by funext x; exact aCert_lo (by omega))
theorem jI_span {sc : Nat → Int32} {M : Nat → Nat → Int32} {n i : Nat} {au fr to : Int32} (h : jI sc M n) : jI sc (aSpan M i au fr to) n :=
  jI_rows h (by funext x; exact aSpan_lo (by omega)) (by funext x; exact aSpan_lo (by omega))
theorem jI_sight {sc : Nat → Int32} {M : Nat → Nat → Int32} {n : Nat} {rule b : Int32} (h : jI sc M n) : jI (aSight sc rule b) M n := by
  unfold aSight
  exact jI_up (jI_up h (by decide)) (by decide)
theorem jI_tr {sc sc' : Nat → Int32} {M : Nat → Nat → Int32} {n : Nat} {name port key : Int32} (h : jI sc M n) (hk : okK key = true) : jI (scN sc (n + 1)) (aTr sc' M n name port key) (n + 1) := by
  unfold aTr
  split
  · exact jI_pat (jI_add h hk) (Or.inl rfl)
  · exact jI_hash (jI_add h hk)
theorem jI_see {sc : Nat → Int32} {b : Nat → Bool} {d : Int32} {M : Nat → Nat → Int32} {n m : Nat} (h : jI sc M n) : jI sc (aSee b d M m) n := jI_rows h (aSee_f (by decide) m) (aSee_f (by decide) m)
theorem jI_wait {sc : Nat → Int32} {M : Nat → Nat → Int32} {n : Nat} {name port key : Int32} (h : jI sc M n) (hk : ¬ key = -1 → okN name = true ∧ okK key = true) : jI (aWait sc name port key) M n := by
  refine ⟨h.1, ?_, h.2.2⟩
  unfold aWait
  rw [va_up_ne _ _ (by decide), va_up_ne _ _ (by decide), va_up_self, va_up_ne _ _ (by decide), va_up_self]
  exact hk
theorem jI_none {sc : Nat → Int32} {M : Nat → Nat → Int32} {n : Nat} (h : jI sc M n) : jI (va_up sc 29 (-1)) M n := ⟨h.1, fun z => absurd (va_up_self _ _ _) z, h.2.2⟩
theorem jI_tl {sc : Nat → Int32} {M : Nat → Nat → Int32} {n : Nat} {day name port old other days : Int32} (h : jI sc M n) (hk : okK other = true) : ∀ j, jI (scN sc (tl day name port old other days (M, n) j).2) (tl day name port old other days (M, n) j).1 (tl day name port old other days (M, n) j).2 := by
  intro j
  induction j with
  | zero => exact ⟨h.1, by rw [scN_ne (by decide), scN_ne (by decide)]; exact h.2.1, h.2.2⟩
  | succ j ih =>
    rw [tl]
    generalize tl day name port old other days (M, n) j = T at ih
    unfold tlS
    split
    · obtain ⟨a1, a2, a3⟩ := jI_add (mk := 0) (day := day) ih hk
      rw [scN_scN] at a2
      refine ⟨fun i hi => ?_, a2, tl_b (v := tlE (T.1 8 j) (day + days)) ih.2.2⟩
      show okK (u2 (aLike (aAdd T.1 T.2 0 other day) T.2 j) 8 j (tlE (T.1 8 j) (day + days)) 5 i) = true
      rw [u2_ne1 (by decide), aLike_lo (by decide)]
      exact a1 i hi
    · exact ih
theorem jI_cl {sc : Nat → Int32} {day days : Int32} : ∀ (k n : Nat) (M : Nat → Nat → Int32), k ≤ n → jI (scN sc n) M n → jI (scN sc (cl day days k (M, n)).2) (cl day days k (M, n)).1 (cl day days k (M, n)).2 := by
  intro k
  induction k with
  | zero => intro n M _ h; exact h
  | succ k ih =>
    intro n M hk h
    obtain ⟨n0, rfl⟩ : ∃ n0, n = n0 + 1 := ⟨n - 1, by omega⟩
    cases hc : clB M day days k with
    | false => rw [cl_s0 hc]; exact ih _ _ (by omega) h
    | true =>
      rw [cl_s1 hc]
      have h2 := jI_rem h (show k < n0 + 1 by omega)
      rw [scN_scN] at h2
      exact ih _ _ (by omega) h2
theorem jI_ans {sc : Nat → Int32} {M : Nat → Nat → Int32} {n : Nat} {its au name port key : Int32} (h : jI sc M n) (h4 : sc 4 = nI n) (hN : okN name = true) (hK : okK key = true) : jI (scN (aW sc its name port key) (aAns sc M n its au name port key).2) (aAns sc M n its au name port key).1 (aAns sc M n its au name port key).2 := by
  have hw : jI (aW sc its name port key) M n := by
    unfold aW
    refine jI_wait h ?_
    by_cases hc : its = 4 ∨ (its = 5 ∧ sc 2 = 1)
    · rw [if_pos hc]; exact fun _ => ⟨hN, hK⟩
    · rw [if_neg hc]; exact fun z => absurd rfl z
  have hw4 : aW sc its name port key 4 = nI n := by unfold aW; rw [aWait_ne (by decide)]; exact h4
  have hs : ∀ j, jI (scN (aW sc its name port key) j) M n := fun j => jI_sc hw (scN_ne (by decide)) (scN_ne (by decide))
  unfold aAns
  split
  · exact jI_see (hs n)
  · split
    · exact jI_tr (sc' := sc) (name := name) (port := port) hw hK
    · exact hs n
