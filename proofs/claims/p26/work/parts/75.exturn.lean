/-! a turn's outcome -/
section HEx4
variable {S' : hS} {h cA bk ca sa : Nat} {f : Nat → Int32} {ad pa : Nat → Nat} {sc : Nat → Int32} {M : Nat → Nat → Int32} {n nc ns d0 D : Nat} {r name port old other : Int32}
theorem ex_turn {u : Nat} (hu : u = uTl n (kN (tlB M (sc 1) old name port) n)) (hB : r = nI ((tl (sc 1) name port old other (nI D) (M, n) n).2 - n) ∧ lB S' h cA (va_up f 1 (nI (n + u))) bk ca sa ad pa (scN sc (tl (sc 1) name port old other (nI D) (M, n) n).2) (tl (sc 1) name port old other (nI D) (M, n) n).1 (tl (sc 1) name port old other (nI D) (M, n) n).2 nc ns)
    (hI : lI sc M n) (hcI : cI f sc M n nc ns) (hn : n ≤ 40) (hz : ∀ i, i < n → ∃ k, k ≤ 4 ∧ M 12 i = nI k) (hK : okK other = true) (hne : ¬ old = other) (h0 : ¬ jb (sc 1) M name port other (-1) n = 0) (hd0 : sc 1 = nI d0) (hd1 : d0 ≤ 5000) (hD : D ≤ 1000) (h4 : sc 4 = nI n) :
    ∃ (sc1 : Nat → Int32) (M1 : Nat → Nat → Int32), r = nI u ∧ lB S' h cA (va_up f 1 (nI (n + u))) bk ca sa ad pa sc1 M1 (n + u) nc ns ∧ lI sc1 M1 (n + u) ∧ cI (va_up f 1 (nI (n + u))) sc1 M1 (n + u) nc ns ∧
      (∀ t, t < u → M1 5 (n + t) = other ∧ M1 6 (n + t) = 0 ∧ M1 7 (n + t) = sc1 1 ∧ M1 8 (n + t) = -1 ∧ mt M1 (n + t) name port = true) ∧
      (¬ u = 0 → jb (sc1 1) M1 name port other (-1) (n + u) = 2) ∧
      (¬ n + u = 40 → D = 0 → ¬ jb (sc1 1) M1 name port old (-1) (n + u) = 2) := by
  obtain ⟨i1, i2, i3, -, i5, i6, i7⟩ := tl_fact (day := sc 1) (name := name) (port := port) (old := old) (other := other) (days := nI D) hn (fun i hi => sz_le hz hi) n (Nat.le_refl n)
  have hjI := jI_tl (day := sc 1) (name := name) (port := port) (old := old) (other := other) (days := nI D) hI.1 hK n
  have hu40 : n + u ≤ 40 := by rw [hu]; unfold uTl; omega
  rw [← hu] at i1
  generalize tl (sc 1) name port old other (nI D) (M, n) n = T at *
  obtain ⟨M1, n1⟩ := T
  have i1 : n1 = n + u := i1
  subst i1
  have i2 : ∀ i, i < n → (∀ f, f ≤ 12 → f ≠ 8 → M1 f i = M f i) ∧ ∀ f k, 13 ≤ f → k < 4 → M1 f (4 * i + k) = M f (4 * i + k) := i2
  have i3 : ∀ i, i < n → M1 8 i = M 8 i ∨ M1 8 i = tlE (M 8 i) (sc 1 + nI D) := i3
  have i5 : ∀ i, n ≤ i → i < n + u → M1 5 i = other ∧ M1 6 i = 0 ∧ M1 7 i = sc 1 ∧ M1 8 i = -1 ∧ mt M1 i name port = true ∧ sz M1 i ≤ 4 := i5
  have i6 : n + u < 40 → ∀ i, i < n → tlB M (sc 1) old name port i = true → M1 8 i = tlE (M 8 i) (sc 1 + nI D) := i6
  have i7 : ∀ f x, 17 ≤ f → M1 f x = M f x := i7
  have hjI : jI (scN sc (n + u)) M1 (n + u) := hjI
  obtain ⟨hr, hB⟩ := hB
  have e1 : scN sc (n + u) 1 = sc 1 := scN_ne (by decide)
  have emt : ∀ i, i < n → mt M1 i name port = mt M i name port := fun i hi => mt_at (fun f _ h2 => (i2 i hi).1 f h2 (by omega)) (fun f k h1 _ hk => (i2 i hi).2 f k h1 hk) (sz_le hz hi) name port
  have hdd : sc 1 + nI D = nI (d0 + D) := by rw [hd0, nI_add]
  refine ⟨scN sc (n + u), M1, ?_, hB, ⟨hjI, by rw [e1]; exact hI.2.1, fun i hi => ?_⟩, cI_n hcI (fun i _ => i7 19 i (by decide)), fun t ht => ?_, fun hu0 => ?_, fun hf hD0 hj => ?_⟩
  · rw [hr]; exact congrArg nI (by show n + u - n = u; omega)
  · rw [e1]
    unfold lnI
    by_cases hin : i < n
    · rw [(i2 i hin).1 6 (by decide) (by decide), (i2 i hin).1 7 (by decide) (by decide)]
      refine ⟨(hI.2.2 i hin).1, (hI.2.2 i hin).2.1, ?_⟩
      rcases i3 i hin with z | z
      · rw [z]; exact (hI.2.2 i hin).2.2
      · rw [z]
        rcases tlE_in (e := M 8 i) (d := sc 1 + nI D) with w | w
        · rw [w, hdd]; exact Int32.le_trans (show (-1 : Int32) ≤ 0 by decide) (nI_pos' (by omega))
        · rw [w]; exact (hI.2.2 i hin).2.2
    · obtain ⟨-, b6, b7, b8, -⟩ := i5 i (by omega) hi
      rw [b6, b7, b8]
      exact ⟨Or.inl rfl, ⟨hI.2.1.1, Int32.le_refl _⟩, by decide⟩
  · obtain ⟨b5, b6, b7, b8, b9, -⟩ := i5 (n + t) (by omega) (by omega)
    rw [e1]
    exact ⟨b5, b6, b7, b8, b9⟩
  · obtain ⟨b5, b6, b7, b8, b9, -⟩ := i5 n (Nat.le_refl n) (by omega)
    rw [e1]
    refine jb_2 (i := n) (by omega) b9 (jm_to2 b6 (by rw [b8]; rfl) b5) (fun j hj hm z => ?_)
    obtain ⟨z6, z5⟩ := jm_i0 z
    by_cases hjn : j < n
    · rw [(i2 j hjn).1 6 (by decide) (by decide)] at z6
      rw [(i2 j hjn).1 5 (by decide) (by decide)] at z5
      rw [emt j hjn] at hm
      have z5 : M 5 j = other := z5.elim id (fun w => absurd w (okK_n1 (hI.1.1 j hjn)))
      exact jb_n0 h0 hjn hm (jm_0 z6 z5).symm
    · rw [(i5 j (by omega) hj).2.1] at z6
      exact absurd z6 (by decide)
  · rw [e1] at hj
    rcases jb_att (day := sc 1) (M := M1) (name := name) (port := port) (key := old) (au := -1) (n + u) with z | ⟨i, hi, hm, z⟩
    · rw [hj] at z; exact absurd z (by decide)
    · rw [hj] at z
      obtain ⟨z6, z8, z5⟩ := jm_i2 z
      by_cases hin : i < n
      · have hE : ∀ e : Int32, en (sc 1) (tlE e (sc 1 + nI D)) = true := fun e => by
          rw [hdd, hD0, hd0]
          exact tlE_end (nI_nm1 (by omega))
        rcases i3 i hin with w | w
        · have hb : tlB M (sc 1) old name port i = true := by
            unfold tlB
            rw [← (i2 i hin).1 6 (by decide) (by decide), ← (i2 i hin).1 5 (by decide) (by decide), ← w, ← emt i hin, z6, z8, z5, hm, decide_eq_true rfl, decide_eq_true rfl]
            rfl
          rw [i6 (by omega) i hin hb, hE] at z8
          exact absurd z8 (by decide)
        · rw [w, hE] at z8
          exact absurd z8 (by decide)
      · exact hne (z5.symm.trans (i5 i (by omega) hi).1)
end HEx4
section HTlb
variable {day old name port : Int32} {M : Nat → Nat → Int32} {j : Nat}
theorem tlb_a (hm : mkP (M 6 j)) (hk : okK (M 5 j) = true) (ho : okK old = true) (h : ¬ 1000 * M 6 j + M 5 j = old) : (0 : Int32) = b2 (tlB M day old name port j) := by
  have e : ¬ (M 6 j = 0 ∧ M 5 j = old) := fun z => h ((ko_eq hm hk ho).mpr z)
  unfold tlB
  by_cases h6 : M 6 j = 0
  · rw [decide_eq_false (fun z : M 5 j = old => e ⟨h6, z⟩), Bool.and_false]; rfl
  · rw [decide_eq_false h6]; rfl
theorem tlb_b (h : ¬ b2 (en day (M 8 j)) = 0) : (0 : Int32) = b2 (tlB M day old name port j) := by
  unfold tlB
  rw [b2_n0 h, show (decide (M 6 j = 0) && !true) = false from Bool.and_false _]; rfl
theorem tlb_c (h : b2 (mt M j name port) = 0) : (0 : Int32) = b2 (tlB M day old name port j) := by
  unfold tlB
  rw [b2_0.mp h, Bool.and_false]; rfl
theorem tlb_1 (hm : mkP (M 6 j)) (hk : okK (M 5 j) = true) (ho : okK old = true) (h : 1000 * M 6 j + M 5 j = old) (h2 : b2 (en day (M 8 j)) = 0) (h3 : ¬ b2 (mt M j name port) = 0) : (1 : Int32) = b2 (tlB M day old name port j) := by
  obtain ⟨a, b⟩ := (ko_eq hm hk ho).mp h
  unfold tlB
  rw [decide_eq_true a, b2_0.mp h2, decide_eq_true b, b2_n0 h3]; rfl
theorem ut_a {n q : Nat} (hq : q ≤ 40) (hn : n ≤ 40) (h : nI q ≤ nI (40 - n)) : nI q = nI (uTl n q) := by
  rw [nI_leI (by omega) (by omega)] at h
  unfold uTl
  exact congrArg nI (by omega)
theorem ut_b {n q : Nat} (hq : q ≤ 40) (hn : n ≤ 40) (h : ¬ nI q ≤ nI (40 - n)) : nI (40 - n) = nI (uTl n q) := by
  rw [nI_leI (by omega) (by omega)] at h
  unfold uTl
  exact congrArg nI (by omega)
theorem day_nat {x : Int32} (h : (0 : Int32) ≤ x ∧ x ≤ 5000) : ∃ d, d ≤ 5000 ∧ x = nI d := nI_of2 (M := 5000) (n := 5000) rfl (Int32.not_lt.mpr h.1) h.2
end HTlb
