/-! certificates, spans, confirming, cleaning: what is kept -/
theorem lt_nle {x d : Nat} (hx : x < 2 ^ 31) (hd : d < 2 ^ 31) (h : ¬ nI d ≤ nI x) : x < d := by
  rw [nI_leI hd hx] at h; omega
theorem lt_ne {x d : Nat} (hx : x ≤ d) (hd : d < 2 ^ 31) (h : ¬ nI x = nI d) : x < d := by
  rw [nI_eq (by omega) hd] at h; omega
theorem b2_le (b : Bool) : b2 b = nI 0 ∨ b2 b = nI 1 := by cases b; exact Or.inl rfl; exact Or.inr rfl
theorem cntN_le {f : Nat → Bool} : ∀ n, ∃ k, k ≤ n ∧ cntN f n = nI k := by
  intro n
  induction n with
  | zero => exact ⟨0, Nat.le_refl _, rfl⟩
  | succ n ih =>
    obtain ⟨k, hk, e⟩ := ih
    rw [cntN, e]
    rcases b2_le (f n) with h | h
    · exact ⟨k, by omega, by rw [h, nI_add]; rfl⟩
    · exact ⟨k + 1, by omega, by rw [h, nI_add]⟩
theorem cntN_0 {f : Nat → Bool} {n : Nat} (hn : n ≤ 20) : ¬ cntN f n < 0 := by
  obtain ⟨k, hk, e⟩ := cntN_le (f := f) n
  rw [e]; exact nI_pos (by omega)
theorem cntN_n {f : Nat → Bool} {n : Nat} (hn : n ≤ 20) : ¬ nI n < cntN f n := by
  obtain ⟨k, hk, e⟩ := cntN_le (f := f) n
  rw [e]; exact nI_nlt hk (by omega)
section HKeep2
variable {sc sc' f : Nat → Int32} {M M' : Nat → Nat → Int32} {n nc ns i k : Nat}
theorem lI_sc (h : lI sc M n) (h1 : sc' 1 = sc 1) (h29 : sc' 29 = sc 29) (h30 : sc' 30 = sc 30) : lI sc' M n :=
  ⟨jI_sc h.1 h29 h30, by rw [h1]; exact h.2.1, by rw [h1]; exact h.2.2⟩
theorem lI_span {au fr to : Int32} (h : lI sc M n) : lI (va_up sc 25 (nI (ns + 1))) (aSpan M ns au fr to) n :=
  lI_sc (lI_rows h (jI_span h.1) (by funext x; exact aSpan_lo (by omega)) (by funext x; exact aSpan_lo (by omega)) (by funext x; exact aSpan_lo (by omega))) (va_up_ne _ _ (by decide)) (va_up_ne _ _ (by decide)) (va_up_ne _ _ (by decide))
theorem cI_span {au fr to : Int32} (h : cI f sc M n nc ns) : cI (va_up f 3 (nI (ns + 1))) (va_up sc 25 (nI (ns + 1))) (aSpan M ns au fr to) n nc (ns + 1) := by
  obtain ⟨a0, a1, a2, a3, a4, a6, a⟩ := h
  refine ⟨?_, ?_, ?_, va_up_self _ _ _, ?_, ?_, fun i hi => ?_⟩
  · rw [va_up_ne _ _ (by decide), va_up_ne _ _ (by decide)]; exact a0
  · rw [va_up_ne _ _ (by decide)]; exact a1
  · rw [va_up_ne _ _ (by decide)]; exact a2
  · rw [va_up_ne _ _ (by decide), va_up_ne _ _ (by decide)]; exact a4
  · rw [va_up_ne _ _ (by decide), va_up_ne _ _ (by decide)]; exact a6
  · rw [va_up_ne _ _ (by omega), aSpan_lo (by omega)]; exact a i hi
theorem lI_cert {au key name places serial first last : Int32} (h : lI sc M n) : lI (va_up sc 17 (nI (nc + 1))) (aCert M nc au key name places serial first last) n :=
  lI_sc (lI_rows h (jI_cert h.1) (by funext x; exact aCert_lo (by omega)) (by funext x; exact aCert_lo (by omega)) (by funext x; exact aCert_lo (by omega))) (va_up_ne _ _ (by decide)) (va_up_ne _ _ (by decide)) (va_up_ne _ _ (by decide))
theorem aCert_19 {au key name places serial first last : Int32} : aCert M nc au key name places serial first last 19 nc = key := by
  unfold aCert
  rw [u2_ne1 (by decide), u2_ne1 (by decide), u2_ne1 (by decide), u2_ne1 (by decide), u2_ne1 (by decide), u2_eq]
theorem cI_cert {v au key name places serial first last : Int32} (h : cI f sc M n nc ns) (hnc : nc < 20) : cI (va_up (va_up (va_up f (8 + nc) v) (28 + nc) key) 2 (nI (nc + 1))) (va_up sc 17 (nI (nc + 1))) (aCert M nc au key name places serial first last) n (nc + 1) ns := by
  obtain ⟨a0, a1, a2, a3, a4, a6, a⟩ := h
  refine ⟨?_, ?_, va_up_self _ _ _, ?_, ?_, ?_, fun i hi => ?_⟩
  · rw [va_up_ne _ _ (by omega), va_up_ne _ _ (by omega), va_up_ne _ _ (by omega), va_up_ne _ _ (by omega)]; exact a0
  · rw [va_up_ne _ _ (by omega), va_up_ne _ _ (by omega), va_up_ne _ _ (by omega)]; exact a1
  · rw [va_up_ne _ _ (by omega), va_up_ne _ _ (by omega), va_up_ne _ _ (by omega)]; exact a3
  · rw [va_up_ne _ _ (by omega), va_up_ne _ _ (by omega), va_up_ne _ _ (by omega), va_up_ne _ _ (by omega)]; exact a4
  · rw [va_up_ne _ _ (by omega), va_up_ne _ _ (by omega), va_up_ne _ _ (by omega), va_up_ne _ _ (by omega)]; exact a6
  · rw [va_up_ne _ _ (by omega)]
    by_cases hin : i = nc
    · subst hin
      rw [va_up_self, aCert_19]
    · rw [va_up_ne _ _ (by omega), va_up_ne _ _ (by omega), aCert_lo (by omega)]
      exact a i (by omega)
/-! a line that comes of a first sight -/
theorem aTr_at {name port key : Int32} : aTr sc M n name port key 5 n = key ∧ aTr sc M n name port key 6 n = 0 ∧ aTr sc M n name port key 7 n = sc 1 ∧ aTr sc M n name port key 8 n = -1 := by
  obtain ⟨e5, e6, e7, e8⟩ := aAdd_at (M := M) (n := n) (mk := 0) (key := key) (day := sc 1)
  unfold aTr
  split
  · rw [aPat_lt (by decide), aPat_lt (by decide), aPat_lt (by decide), aPat_lt (by decide)]
    exact ⟨e5, e6, e7, e8⟩
  · rw [aHash_ge (by decide), aHash_ge (by decide), aHash_ge (by decide), aHash_ge (by decide)]
    exact ⟨e5, e6, e7, e8⟩
theorem aTr_ne {name port key : Int32} {f x : Nat} (hf : f ≤ 12) (hx : x ≠ n) : aTr sc M n name port key f x = M f x := by
  unfold aTr
  split
  · by_cases h12 : f = 12
    · subst h12
      rw [aPat_12, if_neg hx, aAdd_ne hx]
    · rw [aPat_lt (by omega), aAdd_ne hx]
  · rw [aHash_ne hx, aAdd_ne hx]
theorem aTr_hi {name port key : Int32} {f x : Nat} (hf : 17 ≤ f) : aTr sc M n name port key f x = M f x := by
  unfold aTr
  split
  · rw [aPat_lt (by omega), aAdd_ge (by omega)]
  · rw [aHash_ge (by omega), aAdd_ge (by omega)]
theorem aTr_ne4 {name port key : Int32} {f x j : Nat} (hf : 13 ≤ f) (hx : x ≠ n) (hj : j < 4) : aTr sc M n name port key f (4 * x + j) = M f (4 * x + j) := by
  unfold aTr
  split
  · rw [aPat_p hf (by omega), aAdd_ge hf]
  · rw [aHash_ge (by omega), aAdd_ge hf]
theorem aTr_mt {name port key : Int32} (hN : okN name = true) (hK : okK key = true) : mt (aTr sc M n name port key) n name port = true := by
  unfold aTr
  split
  · rw [lP_mt (lP_a (lP_0 (M := M) (n := n) (mk := 0) (key := key) (day := sc 1)) (by decide))]
    simp [like_self]
  · have e9 : aHash (aAdd M n 0 key (sc 1)) n name port ((7 * name + key) % 100) 9 n = (7 * name + key) % 100 := by
      unfold aHash; rw [u2_ne1 (by decide), u2_ne1 (by decide), u2_eq]
    have e10 : aHash (aAdd M n 0 key (sc 1)) n name port ((7 * name + key) % 100) 10 n = hsh name ((7 * name + key) % 100) := by
      unfold aHash; rw [u2_ne1 (by decide), u2_eq]
    have e11 : aHash (aAdd M n 0 key (sc 1)) n name port ((7 * name + key) % 100) 11 n = port := by
      unfold aHash; rw [u2_eq]
    unfold mt
    rw [e9, e10, e11, if_neg (salt_ok hN hK), decide_eq_true rfl, decide_eq_true rfl]
    rfl
theorem lI_tr {name port key : Int32} (h : lI sc M n) (hk : okK key = true) : lI (scN sc (n + 1)) (aTr sc M n name port key) (n + 1) := by
  refine ⟨jI_tr h.1 hk, by rw [scN_ne (by decide)]; exact h.2.1, fun i hi => ?_⟩
  rw [scN_ne (by decide)]
  unfold lnI
  by_cases hin : i = n
  · subst hin
    obtain ⟨-, e6, e7, e8⟩ := aTr_at (sc := sc) (M := M) (n := i) (name := name) (port := port) (key := key)
    rw [e6, e7, e8]
    exact ⟨Or.inl rfl, ⟨h.2.1.1, Int32.le_refl _⟩, by decide⟩
  · rw [aTr_ne (by decide) hin, aTr_ne (by decide) hin, aTr_ne (by decide) hin]
    exact h.2.2 i (by omega)
end HKeep2
