/-! what a writer's outcome is, told shortly -/
theorem b2_1 {b : Bool} (h : b = true) : ¬ b2 b = 0 := by subst h; decide
theorem b2_z {b : Bool} (h : b = false) : b2 b = 0 := by subst h; rfl
section HEx
variable {S' : hS} {h cA bk ca sa : Nat} {f : Nat → Int32} {ad pa : Nat → Nat} {sc : Nat → Int32} {M : Nat → Nat → Int32} {n nc ns i k : Nat} {Ac De : Int32 → Int32 → Bool} {r mk key nm pl pt : Int32}
theorem ex_add (hB : r = nI n ∧ lB S' h cA (va_up f 1 (nI (n + 1))) bk ca sa ad pa (scN sc (n + 1)) (aAdd M n mk key (sc 1)) (n + 1) nc ns) (hI : lI sc M n) (hcI : cI f sc M n nc ns) (hm : mkP mk) (hk : okK key = true) :
    ∃ (sc1 : Nat → Int32) (M1 : Nat → Nat → Int32), r = nI n ∧ lB S' h cA (va_up f 1 (nI (n + 1))) bk ca sa ad pa sc1 M1 (n + 1) nc ns ∧ lI sc1 M1 (n + 1) ∧ cI (va_up f 1 (nI (n + 1))) sc1 M1 (n + 1) nc ns ∧ lP M1 n 0 (fun _ _ => false) (fun _ _ => false) ∧ M1 5 n = key ∧ M1 6 n = mk ∧ M1 7 n = sc1 1 ∧ M1 8 n = -1 := by
  obtain ⟨e5, e6, e7, e8⟩ := aAdd_at (M := M) (n := n) (mk := mk) (key := key) (day := sc 1)
  exact ⟨_, _, hB.1, hB.2, lI_add hI hm hk, cI_n hcI (fun i _ => aAdd_ge (by decide)), lP_0, e5, e6, by rw [scN_ne (by decide)]; exact e7, e8⟩
theorem ex_pa (hB : r = nI (sz M i + 1) ∧ lB S' h cA f bk ca sa ad pa sc (aPat M i (sz M i) nm pl pt 0) n nc ns) (hI : lI sc M n) (hcI : cI f sc M n nc ns) (hP : lP M i k Ac De) (hk : k < 4) :
    ∃ M1 : Nat → Nat → Int32, r = nI (k + 1) ∧ lB S' h cA f bk ca sa ad pa sc M1 n nc ns ∧ lI sc M1 n ∧ cI f sc M1 n nc ns ∧ lP M1 i (k + 1) (fun a p => Ac a p || (decide (pt = p) && like pl nm a)) De := by
  rw [lP_sz hP] at hB
  exact ⟨_, hB.1, hB.2, lI_pat hI (Or.inl rfl), cI_M hcI (fun i _ => aPat_lt (by omega)), lP_a hP hk⟩
theorem ex_pd (hB : r = nI (sz M i + 1) ∧ lB S' h cA f bk ca sa ad pa sc (aPat M i (sz M i) nm pl pt 1) n nc ns) (hI : lI sc M n) (hcI : cI f sc M n nc ns) (hP : lP M i k Ac De) (hk : k < 4) :
    ∃ M1 : Nat → Nat → Int32, r = nI (k + 1) ∧ lB S' h cA f bk ca sa ad pa sc M1 n nc ns ∧ lI sc M1 n ∧ cI f sc M1 n nc ns ∧ lP M1 i (k + 1) Ac (fun a p => De a p || (decide (pt = p) && like pl nm a)) := by
  rw [lP_sz hP] at hB
  exact ⟨_, hB.1, hB.2, lI_pat hI (Or.inr rfl), cI_M hcI (fun i _ => aPat_lt (by omega)), lP_d hP hk⟩
end HEx
theorem a20 {A : Nat} (hA1 : A < 2 ^ 31) (h : ¬ 0 < nI A % 20) : A % 20 = 0 := by
  rw [show (20 : Int32) = nI 20 from rfl, nI_mod hA1 (by decide) (by decide), show (0 : Int32) = nI 0 from rfl, nI_ltI (by decide) (by omega)] at h
  omega
theorem nI_z {x : Nat} (hx : x < 2 ^ 31) (h : ¬ 0 < nI x) : nI x = 0 := by
  rw [show (0 : Int32) = nI 0 from rfl, nI_ltI (by decide) hx] at h
  rw [show x = 0 by omega]; rfl
