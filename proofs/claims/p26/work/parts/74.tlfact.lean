/-! turning, line by line -/
theorem aLike_mt {M : Nat → Nat → Int32} {n j : Nat} (hs : sz M j ≤ 4) {d : Int32} (a p : Int32) : mt (u2 (aLike M n j) 8 j d) n a p = mt M j a p :=
  mt_at (fun f h1 h2 => by rw [u2_ne1 (by omega), aLike_eq h1 h2]) (fun f k h1 h2 hk => by rw [u2_ne1 (by omega), aLike_eq4 h1 h2 hk]) hs a p
theorem tlE_in {e d : Int32} : tlE e d = d ∨ tlE e d = e := by
  unfold tlE; split
  · exact Or.inl rfl
  · exact Or.inr rfl
theorem tlE_end {e d : Int32} (hd : ¬ d = -1) : en d (tlE e d) = true := by
  unfold en
  rw [Bool.and_eq_true, decide_eq_true_eq, decide_eq_true_eq]
  unfold tlE
  split
  · exact ⟨hd, Int32.le_refl _⟩
  · rename_i h
    exact ⟨fun z => h (Or.inl z), Int32.not_lt.mp (fun z => h (Or.inr z))⟩
def uTl (n q : Nat) : Nat := min q (40 - n)
section HTl
variable {day name port old other days : Int32} {M : Nat → Nat → Int32} {n : Nat}
theorem tl_fact (hn : n ≤ 40) (hz : ∀ i, i < n → sz M i ≤ 4) : ∀ j, j ≤ n →
    (tl day name port old other days (M, n) j).2 = n + uTl n (kN (tlB M day old name port) j) ∧
    (∀ i, i < n → (∀ f, f ≤ 12 → f ≠ 8 → (tl day name port old other days (M, n) j).1 f i = M f i) ∧ ∀ f k, 13 ≤ f → k < 4 → (tl day name port old other days (M, n) j).1 f (4 * i + k) = M f (4 * i + k)) ∧
    (∀ i, i < n → (tl day name port old other days (M, n) j).1 8 i = M 8 i ∨ (tl day name port old other days (M, n) j).1 8 i = tlE (M 8 i) (day + days)) ∧
    (∀ i, j ≤ i → i < n → (tl day name port old other days (M, n) j).1 8 i = M 8 i) ∧
    (∀ i, n ≤ i → i < (tl day name port old other days (M, n) j).2 → (tl day name port old other days (M, n) j).1 5 i = other ∧ (tl day name port old other days (M, n) j).1 6 i = 0 ∧ (tl day name port old other days (M, n) j).1 7 i = day ∧ (tl day name port old other days (M, n) j).1 8 i = -1 ∧ mt (tl day name port old other days (M, n) j).1 i name port = true ∧ sz (tl day name port old other days (M, n) j).1 i ≤ 4) ∧
    ((tl day name port old other days (M, n) j).2 < 40 → ∀ i, i < j → tlB M day old name port i = true → (tl day name port old other days (M, n) j).1 8 i = tlE (M 8 i) (day + days)) ∧
    (∀ f x, 17 ≤ f → (tl day name port old other days (M, n) j).1 f x = M f x) := by
  intro j
  induction j with
  | zero =>
    intro _
    refine ⟨by show n = n + min 0 (40 - n); omega, fun i _ => ⟨fun f _ _ => rfl, fun f k _ _ => rfl⟩, fun i _ => Or.inl rfl, fun i _ _ => rfl, fun i h1 h2 => ?_, fun _ i hi => by omega, fun f x _ => rfl⟩
    have h2 : i < n := h2
    omega
  | succ j ih =>
    intro hj
    have hjn : j < n := by omega
    obtain ⟨i1, i2, i3, i4, i5, i6, i7⟩ := ih (by omega)
    have hkN : kN (tlB M day old name port) (j + 1) = kN (tlB M day old name port) j + (if tlB M day old name port j then 1 else 0) := rfl
    have hfull := tl_full (day := day) (name := name) (port := port) (old := old) (other := other) (days := days) (T := (M, n)) (j := j)
    rcases hT : tl day name port old other days (M, n) j with ⟨M1, n1⟩
    rw [hT] at i1 i2 i3 i4 i5 i6 i7 hfull
    have i1 : n1 = n + min (kN (tlB M day old name port) j) (40 - n) := i1
    have i2 : ∀ i, i < n → (∀ f, f ≤ 12 → f ≠ 8 → M1 f i = M f i) ∧ ∀ f k, 13 ≤ f → k < 4 → M1 f (4 * i + k) = M f (4 * i + k) := i2
    have i3 : ∀ i, i < n → M1 8 i = M 8 i ∨ M1 8 i = tlE (M 8 i) (day + days) := i3
    have i4 : ∀ i, j ≤ i → i < n → M1 8 i = M 8 i := i4
    have i5 : ∀ i, n ≤ i → i < n1 → M1 5 i = other ∧ M1 6 i = 0 ∧ M1 7 i = day ∧ M1 8 i = -1 ∧ mt M1 i name port = true ∧ sz M1 i ≤ 4 := i5
    have i6 : n1 < 40 → ∀ i, i < j → tlB M day old name port i = true → M1 8 i = tlE (M 8 i) (day + days) := i6
    have i7 : ∀ f x, 17 ≤ f → M1 f x = M f x := i7
    have hnn : n ≤ n1 := by rw [i1]; exact Nat.le_add_right _ _
    have emj : ∀ a p, mt M1 j a p = mt M j a p := fun a p => mt_at (fun f _ h2 => (i2 j hjn).1 f h2 (by omega)) (fun f k h1 _ hk => (i2 j hjn).2 f k h1 hk) (hz j hjn) a p
    have eB : tlB M1 day old name port j = tlB M day old name port j := by
      unfold tlB
      rw [(i2 j hjn).1 6 (by decide) (by decide), (i2 j hjn).1 5 (by decide) (by decide), i4 j (Nat.le_refl j) hjn, emj]
    by_cases hlt : n1 < 40
    · cases hB : tlB M day old name port j with
      | false =>
        rw [tl_s0 hT (eB.trans hB)]
        refine ⟨?_, i2, i3, fun i h1 h2 => i4 i (by omega) h2, i5, fun hl i hi hb => ?_, i7⟩
        · show n1 = n + min _ _
          rw [hkN, hB]; exact i1
        · by_cases hij : i = j
          · rw [hij, hB] at hb; exact absurd hb (by decide)
          · exact i6 hl i (by omega) hb
      | true =>
        rw [tl_s1 hT hlt (eB.trans hB)]
        have hjn1 : j ≠ n1 := by omega
        have e8 : M1 8 j = M 8 j := i4 j (Nat.le_refl j) hjn
        have ne : ∀ i, i < n → i ≠ n1 := fun i hi => by omega
        have k1 : ∀ f i, f ≤ 12 → i ≠ n1 → ¬ (f = 8 ∧ i = j) → u2 (aLike (aAdd M1 n1 0 other day) n1 j) 8 j (tlE (M1 8 j) (day + days)) f i = M1 f i := fun f i hf hi h8 => by
          rw [u2_at, if_neg h8, aLike_ne hf hi, aAdd_ne hi]
        have k4 : ∀ f i k, 13 ≤ f → i ≠ n1 → k < 4 → u2 (aLike (aAdd M1 n1 0 other day) n1 j) 8 j (tlE (M1 8 j) (day + days)) f (4 * i + k) = M1 f (4 * i + k) := fun f i k hf hi hk => by
          rw [u2_ne1 (by omega), aLike_ne4 hf hi hk, aAdd_ge hf]
        have k8 : u2 (aLike (aAdd M1 n1 0 other day) n1 j) 8 j (tlE (M1 8 j) (day + days)) 8 j = tlE (M 8 j) (day + days) := by rw [u2_eq, e8]
        obtain ⟨a5, a6, a7, a8⟩ := aAdd_at (M := M1) (n := n1) (mk := 0) (key := other) (day := day)
        have kn : ∀ f, f < 9 → u2 (aLike (aAdd M1 n1 0 other day) n1 j) 8 j (tlE (M1 8 j) (day + days)) f n1 = aAdd M1 n1 0 other day f n1 := fun f hf => by
          rw [u2_ne2 (fun z => hjn1 z.symm), aLike_lo (by omega)]
        refine ⟨?_, fun i hi => ⟨fun f hf h8 => ?_, fun f k hf hk => ?_⟩, fun i hi => ?_, fun i h1 h2 => ?_, fun i h1 h2 => ?_, fun hl i hi hb => ?_, fun f x hf => ?_⟩
        · show n1 + 1 = n + min _ _
          rw [hkN, hB, if_pos rfl]
          rw [i1] at hlt ⊢
          omega
        · show u2 (aLike (aAdd M1 n1 0 other day) n1 j) 8 j (tlE (M1 8 j) (day + days)) f i = _
          rw [k1 f i hf (ne i hi) (fun z => h8 z.1)]
          exact (i2 i hi).1 f hf h8
        · show u2 (aLike (aAdd M1 n1 0 other day) n1 j) 8 j (tlE (M1 8 j) (day + days)) f (4 * i + k) = _
          rw [k4 f i k hf (ne i hi) hk]
          exact (i2 i hi).2 f k hf hk
        · show u2 (aLike (aAdd M1 n1 0 other day) n1 j) 8 j (tlE (M1 8 j) (day + days)) 8 i = _ ∨ u2 (aLike (aAdd M1 n1 0 other day) n1 j) 8 j (tlE (M1 8 j) (day + days)) 8 i = _
          by_cases hij : i = j
          · rw [hij, k8]; exact Or.inr rfl
          · rw [k1 8 i (by decide) (ne i hi) (fun z => hij z.2)]
            exact i3 i hi
        · show u2 (aLike (aAdd M1 n1 0 other day) n1 j) 8 j (tlE (M1 8 j) (day + days)) 8 i = _
          rw [k1 8 i (by decide) (ne i h2) (fun z => by omega)]
          exact i4 i (by omega) h2
        · have h2 : i < n1 + 1 := h2
          show u2 (aLike (aAdd M1 n1 0 other day) n1 j) 8 j (tlE (M1 8 j) (day + days)) 5 i = other ∧ u2 (aLike (aAdd M1 n1 0 other day) n1 j) 8 j (tlE (M1 8 j) (day + days)) 6 i = 0 ∧ u2 (aLike (aAdd M1 n1 0 other day) n1 j) 8 j (tlE (M1 8 j) (day + days)) 7 i = day ∧ u2 (aLike (aAdd M1 n1 0 other day) n1 j) 8 j (tlE (M1 8 j) (day + days)) 8 i = -1 ∧ mt (u2 (aLike (aAdd M1 n1 0 other day) n1 j) 8 j (tlE (M1 8 j) (day + days))) i name port = true ∧ sz (u2 (aLike (aAdd M1 n1 0 other day) n1 j) 8 j (tlE (M1 8 j) (day + days))) i ≤ 4
          by_cases hin : i = n1
          · rw [hin, kn 5 (by decide), kn 6 (by decide), kn 7 (by decide), kn 8 (by decide)]
            have hzj : sz (aAdd M1 n1 0 other day) j ≤ 4 := by
              unfold sz
              rw [aAdd_ne hjn1, (i2 j hjn).1 12 (by decide) (by decide)]
              exact hz j hjn
            refine ⟨a5, a6, a7, a8, ?_, by unfold sz; rw [u2_ne1 (by decide), aLike_eq (by decide) (by decide)]; exact hzj⟩
            rw [aLike_mt hzj, mt_at (M := M1) (i := j) (fun f _ h2 => aAdd_ne hjn1 f) (fun f k h1 _ hk => aAdd_ge h1) (by unfold sz; rw [(i2 j hjn).1 12 (by decide) (by decide)]; exact hz j hjn), emj]
            have hB2 := hB
            unfold tlB at hB2
            rw [Bool.and_eq_true] at hB2
            exact hB2.2
          · have hi1 : i < n1 := by omega
            have hij : i ≠ j := by omega
            obtain ⟨b5, b6, b7, b8, b9, bz⟩ := i5 i h1 hi1
            rw [k1 5 i (by decide) hin (fun z => hij z.2), k1 6 i (by decide) hin (fun z => hij z.2), k1 7 i (by decide) hin (fun z => hij z.2), k1 8 i (by decide) hin (fun z => hij z.2)]
            refine ⟨b5, b6, b7, b8, ?_, ?_⟩
            · rw [mt_at (M := M1) (i := i) (fun f h1 h2 => k1 f i h2 hin (fun z => hij z.2)) (fun f k h1 _ hk => k4 f i k h1 hin hk) bz]
              exact b9
            · unfold sz at bz ⊢
              rw [k1 12 i (by decide) hin (fun z => hij z.2)]
              exact bz
        · have hl : n1 + 1 < 40 := hl
          show u2 (aLike (aAdd M1 n1 0 other day) n1 j) 8 j (tlE (M1 8 j) (day + days)) 8 i = _
          by_cases hij : i = j
          · rw [hij, k8]
          · rw [k1 8 i (by decide) (ne i (by omega)) (fun z => hij z.2)]
            exact i6 hlt i (by omega) hb
        · show u2 (aLike (aAdd M1 n1 0 other day) n1 j) 8 j (tlE (M1 8 j) (day + days)) f x = _
          rw [u2_ne1 (by omega), aLike_lo (by omega), aAdd_ge (by omega)]
          exact i7 f x hf
    · have hf := hfull hlt 1
      rw [hf]
      refine ⟨?_, i2, i3, fun i h1 h2 => i4 i (by omega) h2, i5, fun hl => absurd hl hlt, i7⟩
      show n1 = n + min _ _
      rw [hkN]
      rw [i1] at hlt ⊢
      have := kN_le (f := tlB M day old name port) j
      split <;> omega
end HTl
