theorem ba {a b : Bool} (h : a = true) (k : b = true) : (a && b) = true := by rw [h, k]; rfl
section HEx2
variable {S' : hS} {h cA bk ca sa : Nat} {f : Nat → Int32} {ad pa : Nat → Nat} {sc : Nat → Int32} {M : Nat → Nat → Int32} {n nc ns : Nat} {r : Int32}
theorem ex_conf (hB : r = nI n ∧ lB S' h cA (va_up (va_up f 6 0) 1 (nI (n + 1))) bk ca sa ad pa (va_up (scN sc (n + 1)) 29 (-1)) (aTr sc M n (sc 30) (sc 31) (sc 29)) (n + 1) nc ns) (hI : lI sc M n) (hcI : cI f sc M n nc ns) (hk : okK (sc 29) = true) :
    ∃ (sc1 : Nat → Int32) (M1 : Nat → Nat → Int32), r = nI n ∧ lB S' h cA (va_up (va_up f 6 0) 1 (nI (n + 1))) bk ca sa ad pa sc1 M1 (n + 1) nc ns ∧ lI sc1 M1 (n + 1) ∧ cI (va_up (va_up f 6 0) 1 (nI (n + 1))) sc1 M1 (n + 1) nc ns ∧ sc1 29 = -1 ∧ M1 5 n = sc 29 ∧ M1 6 n = 0 ∧ M1 7 n = sc1 1 := by
  obtain ⟨e5, e6, e7, e8⟩ := aTr_at (sc := sc) (M := M) (n := n) (name := sc 30) (port := sc 31) (key := sc 29)
  have h2 := lI_tr (name := sc 30) (port := sc 31) hI hk
  refine ⟨_, _, hB.1, hB.2, ⟨jI_none h2.1, ?_, ?_⟩, ?_, va_up_self _ _ _, e5, e6, ?_⟩
  · rw [va_up_ne _ _ (by decide)]; exact h2.2.1
  · rw [va_up_ne _ _ (by decide)]; exact h2.2.2
  · obtain ⟨a0, a1, a2, a3, a4, a6, a⟩ := hcI
    refine ⟨?_, va_up_self _ _ _, ?_, ?_, ?_, ?_, fun i hi => ?_⟩
    · rw [va_up_ne _ _ (by decide), va_up_ne _ _ (by decide), va_up_ne _ _ (by decide), scN_ne (by decide)]; exact a0
    · rw [va_up_ne _ _ (by decide), va_up_ne _ _ (by decide)]; exact a2
    · rw [va_up_ne _ _ (by decide), va_up_ne _ _ (by decide)]; exact a3
    · rw [va_up_ne _ _ (by decide), va_up_ne _ _ (by decide), va_up_ne _ _ (by decide), scN_ne (by decide)]; exact a4
    · rw [va_up_ne _ _ (by decide), va_up_self, va_up_self]; rfl
    · rw [va_up_ne _ _ (by omega), va_up_ne _ _ (by omega), aTr_hi (by decide)]; exact a i hi
  · rw [va_up_ne _ _ (by decide), scN_ne (by decide)]; exact e7
theorem ex_clean {days : Int32} {u : Nat} (hu : u = kN (clB M (sc 1) days) n) (hB : r = nI (n - (cl (sc 1) days n (M, n)).2) ∧ ∃ ad', lB S' h cA (va_up f 1 (nI (n - u))) bk ca sa ad' pa (scN sc (cl (sc 1) days n (M, n)).2) (cl (sc 1) days n (M, n)).1 (cl (sc 1) days n (M, n)).2 nc ns) (hI : lI sc M n) (hcI : cI f sc M n nc ns) (h4 : sc 4 = nI n) :
    ∃ (ad' : Nat → Nat) (sc1 : Nat → Int32) (M1 : Nat → Nat → Int32), r = nI u ∧ lB S' h cA (va_up f 1 (nI (n - u))) bk ca sa ad' pa sc1 M1 (n - u) nc ns ∧ lI sc1 M1 (n - u) ∧ cI (va_up f 1 (nI (n - u))) sc1 M1 (n - u) nc ns ∧ ∀ i, i < n - u → clB M1 (sc1 1) days i = false := by
  obtain ⟨z1, z2⟩ := cl_fact (day := sc 1) (days := days) n n M (Nat.le_refl n) (fun i h1 h2 => by omega)
  have h3 := lI_cl (sc := sc) (day := sc 1) (days := days) n n M (Nat.le_refl n) (by rw [scN_self h4]; exact hI)
  have h5 := fun x => cl_19 (day := sc 1) (days := days) (x := x) n n M (Nat.le_refl n)
  have e : (cl (sc 1) days n (M, n)).2 = n - u := by omega
  generalize cl (sc 1) days n (M, n) = T at *
  obtain ⟨M1, n1⟩ := T
  have e : n1 = n - u := e
  subst e
  obtain ⟨hr, ad', hB⟩ := hB
  refine ⟨ad', _, _, ?_, hB, h3, cI_n hcI (fun i _ => h5 i), fun i hi => ?_⟩
  · have hle : u ≤ n := by rw [hu]; exact kN_le n
    rw [hr]; exact congrArg nI (by show n - (n - u) = u; omega)
  · rw [scN_ne (by decide)]; exact z2 i hi
/-- nothing is left to clean -/
theorem ex_clean0 {days : Int32} (h0 : ∀ i, i < n → clB M (sc 1) days i = false) (hB : r = nI (n - (cl (sc 1) days n (M, n)).2) ∧ ∃ ad', lB S' h cA f bk ca sa ad' pa (scN sc (cl (sc 1) days n (M, n)).2) (cl (sc 1) days n (M, n)).1 (cl (sc 1) days n (M, n)).2 nc ns) (hI : lI sc M n) (hcI : cI f sc M n nc ns) (h4 : sc 4 = nI n) :
    ∃ (ad' : Nat → Nat) (sc1 : Nat → Int32) (M1 : Nat → Nat → Int32), r = 0 ∧ lB S' h cA f bk ca sa ad' pa sc1 M1 n nc ns ∧ lI sc1 M1 n ∧ cI f sc1 M1 n nc ns := by
  obtain ⟨z1, z2⟩ := cl_fact (day := sc 1) (days := days) n n M (Nat.le_refl n) (fun i h1 h2 => by omega)
  have h3 := lI_cl (sc := sc) (day := sc 1) (days := days) n n M (Nat.le_refl n) (by rw [scN_self h4]; exact hI)
  have h5 := fun x => cl_19 (day := sc 1) (days := days) (x := x) n n M (Nat.le_refl n)
  rw [kN_0 n h0] at z1
  generalize cl (sc 1) days n (M, n) = T at *
  obtain ⟨M1, n1⟩ := T
  have e : n1 = n := by simpa using z1
  subst e
  obtain ⟨hr, ad', hB⟩ := hB
  rw [scN_self h4] at hB h3
  refine ⟨ad', _, _, ?_, hB, h3, cI_M hcI (fun i _ => h5 i)⟩
  rw [hr]; exact congrArg nI (by show n1 - n1 = 0; omega)
end HEx2
