theorem aLike_b {M : Nat → Nat → Int32} {i j : Nat} (h : ∀ x, isB (M 16 x)) : ∀ x, isB (aLike M i j 16 x) := fun x => by
  unfold aLike
  rw [if_neg (by omega)]
  split
  · exact h _
  · exact h _
theorem aRem_b {M : Nat → Nat → Int32} {i n : Nat} (h : ∀ x, isB (M 16 x)) : ∀ x, isB (aRem M i n 16 x) := fun x => by
  unfold aRem
  rw [if_neg (by omega)]
  split
  · exact h _
  · exact h _
theorem aAdd_b {M : Nat → Nat → Int32} {n : Nat} {mk key day : Int32} (h : ∀ x, isB (M 16 x)) : ∀ x, isB (aAdd M n mk key day 16 x) := fun x => by
  rw [aAdd_ge (by decide)]
  exact h x
theorem tl_b {M : Nat → Nat → Int32} {n j : Nat} {mk key day v : Int32} (h : ∀ x, isB (M 16 x)) : ∀ x, isB (u2 (aLike (aAdd M n mk key day) n j) 8 j v 16 x) := fun x => by
  rw [u2_ne1 (by decide)]
  exact aLike_b (aAdd_b h) x
theorem tl_sz {M : Nat → Nat → Int32} {n n1 j : Nat} {mk key day v : Int32} (h : ∀ i, i < n → ∃ k, k ≤ 4 ∧ M 12 i = nI k) (hn : n ≤ n1) : ∀ i, i < n → ∃ k, k ≤ 4 ∧ u2 (aLike (aAdd M n1 mk key day) n1 j) 8 j v 12 i = nI k := fun i hi => by
  rw [u2_ne1 (by decide), aLike_ne (by decide) (by omega), aAdd_ne (by omega)]
  exact h i hi
theorem tl_8 {M : Nat → Nat → Int32} {n1 j : Nat} {mk key day : Int32} (hj : j ≠ n1) : aLike (aAdd M n1 mk key day) n1 j 8 j = M 8 j := by
  rw [aLike_lo (by decide), aAdd_ne hj]
theorem tlB_eq {M : Nat → Nat → Int32} {day old name port : Int32} {i : Nat} : tlB M day old name port i = (decide (M 6 i = 0) && !en day (M 8 i) && decide (M 5 i = old) && mt M i name port) := rfl
theorem clB_eq' {M : Nat → Nat → Int32} {day days : Int32} {i : Nat} : clB M day days i = (decide (M 6 i = 0) && (en day (M 8 i) || decide (days ≤ day - M 7 i))) := rfl
/-! a new model -/
def mdN (S S' : hS) : Prop := (∀ a k, isO S a k → isO S' a k) ∧ (∀ x a, x < 60 → a ∈ sL S → sF S' x a = sF S x a ∧ sR S' x a = sR S x a) ∧ (∀ a, a ∈ sL S → sN S' a = sN S a ∧ sB S' a = sB S a)
theorem mdF.N {S S' : hS} (h : mdF S S') : mdN S S' := ⟨h.1, fun x a hx _ => h.2.1 x a hx, fun a _ => h.2.2 a⟩
theorem mdN.trans {S T U : hS} (h1 : mdN S T) (h2 : mdN T U) : mdN S U :=
  have hm : ∀ a, a ∈ sL S → a ∈ sL T := fun a ha => (h1.1 a (sK S a) ⟨ha, rfl⟩).1
  ⟨fun a k h => h2.1 a k (h1.1 a k h), fun x a hx ha => ⟨((h2.2.1 x a hx (hm a ha)).1).trans (h1.2.1 x a hx ha).1, ((h2.2.1 x a hx (hm a ha)).2).trans (h1.2.1 x a hx ha).2⟩, fun a ha => ⟨((h2.2.2 a (hm a ha)).1).trans (h1.2.2 a ha).1, ((h2.2.2 a (hm a ha)).2).trans (h1.2.2 a ha).2⟩⟩
theorem mdN_nA {S : hS} {k q n : Nat} (hq : q ∉ sL S) : mdN S (nA S k q n) :=
  ⟨fun _ _ h => isO_nA' h hq, fun x b _ _ => ⟨rfl, rfl⟩, fun a ha => ⟨by rw [sN_nA, if_neg (ne_of_mem ha hq)], by funext j; rw [sB_nA, if_neg (ne_of_mem ha hq)]⟩⟩
theorem mdN_uR (S : hS) {k : Nat} (a : Nat) (v : Option Nat) (hk : 60 ≤ k) : mdN S (uR S k a v) :=
  ⟨fun _ _ h => h, fun x b hx _ => ⟨rfl, by rw [sR_uR, if_neg (fun z => by omega)]⟩, fun _ _ => ⟨rfl, rfl⟩⟩
def iM (S0 S : hS) (md : Nat) (ar : Nat → Nat) (k : Nat) : Prop :=
  mdN S0 S ∧ isO S md 5 ∧ (∀ f, mRow f = true → f < k → sR S (60 + f) md = some (ar f) ∧ isO S (ar f) (mKnd f) ∧ sN S (ar f) = mLen f ∧ sA S (ar f) = fun _ => 0) ∧ (∀ f g, mRow f = true → mRow g = true → f < k → g < k → ar f = ar g → f = g) ∧ ∀ x, sF S x md = if x = 62 then 1 else sF S0 x md
theorem iM_0 {S : hS} {md : Nat} (hO : isO S md 5) : iM S (uF S 62 md 1) md (fun _ => 0) 5 :=
  ⟨(mdF_uF S md 1 (by decide)).N, hO, fun f hf hk => absurd hf (by
    rcases (show f = 0 ∨ f = 1 ∨ f = 2 ∨ f = 3 ∨ f = 4 by omega) with rfl | rfl | rfl | rfl | rfl <;> decide), fun f g hf _ hk _ _ => absurd hf (by
    rcases (show f = 0 ∨ f = 1 ∨ f = 2 ∨ f = 3 ∨ f = 4 by omega) with rfl | rfl | rfl | rfl | rfl <;> decide), fun x => by
    rw [sF_uF]
    by_cases h : x = 62
    · rw [if_pos ⟨h, rfl⟩, if_pos h]
    · rw [if_neg (fun z => h z.1), if_neg h]⟩
theorem iM_skip {S0 S : hS} {md : Nat} {ar : Nat → Nat} {k : Nat} (h : iM S0 S md ar k) (hk : mRow k = false) : iM S0 S md ar (k + 1) := by
  have e : ∀ f, mRow f = true → f < k + 1 → f < k := fun f hf h1 => by
    rcases Nat.lt_or_ge f k with z | z
    · exact z
    · have : f = k := by omega
      rw [this, hk] at hf; exact absurd hf (by decide)
  exact ⟨h.1, h.2.1, fun f hf h1 => h.2.2.1 f hf (e f hf h1), fun f g hf hg h1 h2 => h.2.2.2.1 f g hf hg (e f hf h1) (e g hg h2), h.2.2.2.2⟩
theorem iM_s {S0 S : hS} {md q : Nat} {ar : Nat → Nat} {k : Nat} (h : iM S0 S md ar k) (hk : mRow k = true) (hq : q ∉ sL S) : iM S0 (uR (nA S (mKnd k) q (mLen k)) (60 + k) md (some q)) md (va_up ar k q) (k + 1) := by
  obtain ⟨h1, h2, h3, h4, h5⟩ := h
  have hne : ∀ f, mRow f = true → f < k → ar f ≠ q := fun f hf hfk => ne_of_mem (h3 f hf hfk).2.1.1 hq
  refine ⟨(h1.trans (mdN_nA hq)).trans (mdN_uR _ _ _ (Nat.le_add_right 60 k)), o_uR (isO_nA' h2 hq), fun f hf hfk => ?_, fun f g hf hg hfk hgk he => ?_, fun x => ?_⟩
  · by_cases hfe : f = k
    · subst hfe
      rw [va_up_self]
      refine ⟨by rw [sR_uR, if_pos ⟨rfl, rfl⟩], o_uR (isO_nA _ _ _ _), ?_, ?_⟩
      · rw [sN_uR]; exact sN_nA_self _ _ _ _
      · rw [sA_uR]; funext j; rw [sA_nA, if_pos rfl]
    · obtain ⟨a1, a2, a3, a4⟩ := h3 f hf (by omega)
      rw [va_up_ne _ _ hfe]
      refine ⟨?_, o_uR (isO_nA' a2 hq), ?_, ?_⟩
      · rw [sR_uR, if_neg (by omega), sR_nA]; exact a1
      · rw [sN_uR, sN_nA, if_neg (hne f hf (by omega))]; exact a3
      · rw [sA_uR]; funext j; rw [sA_nA, if_neg (hne f hf (by omega)), a4]
  · by_cases hfe : f = k <;> by_cases hge : g = k
    · omega
    · subst hfe; rw [va_up_self, va_up_ne _ _ hge] at he; exact absurd he.symm (hne g hg (by omega))
    · subst hge; rw [va_up_self, va_up_ne _ _ hfe] at he; exact absurd he (hne f hf (by omega))
    · rw [va_up_ne _ _ hfe, va_up_ne _ _ hge] at he; exact h4 f g hf hg (by omega) (by omega) he
  · rw [sF_uR', sF_nA']
    exact h5 x
theorem iM_e {S0 S : hS} {md : Nat} {ar : Nat → Nat} (h : iM S0 S md ar 29) (hz : ∀ x, sF S0 x md = 0) : mS (uF S 89 md (-1)) md ar sc0 M0 ∧ mdN S0 (uF S 89 md (-1)) := by
  obtain ⟨h1, h2, h3, h4, h5⟩ := h
  have e : ∀ f, mRow f = true → f < 29 := fun f hf => by
    rcases Nat.lt_or_ge f 29 with z | z
    · exact z
    · exfalso
      unfold mRow at hf
      simp only [Bool.or_eq_true, Bool.and_eq_true, Nat.ble_eq] at hf
      omega
  refine ⟨⟨⟨h2, fun f hf => ?_, fun f g hf hg he => h4 f g hf hg (e f hf) (e g hg) he⟩, fun x hx => ?_, fun f hf => (h3 f hf (e f hf)).2.2.2⟩, h1.trans (mdF_uF _ _ _ (by decide)).N⟩
  · obtain ⟨a1, a2, a3, -⟩ := h3 f hf (e f hf)
    exact ⟨a1, a2, a3⟩
  · rw [sF_uF]
    by_cases h29 : x = 29
    · subst h29; rw [if_pos ⟨rfl, rfl⟩]; rfl
    · rw [if_neg (by omega), h5, hz]
      unfold sc0
      by_cases h22 : x = 2
      · subst h22; rfl
      · rw [if_neg (by omega), if_neg h22, if_neg h29]
section HMi
variable {p : Program} {l : Launch} {e : Env} {R : Room} {s : State} {m' : MethodId} {args : Array Value} {below : List Frame} {meth : Method} {c : Code} {nL : Nat} {g : hG} {X : va_W} {Q : State → Prop} {S S0 : hS} {cells slots : Nat} {lv : List (Nat × Value)} {pc : Nat} {st : List Value} {md q : Nat} {ar : Nat → Nat}
theorem q_mi (f : Nat) (hf : mRow f = true) (hq : q ∉ sL S) (hI : iM S0 S md ar f) (kk : ∀ (S' : hS) (ar' : Nat → Nat), iM S0 S' md ar' (f + 1) → V p l e R s m' args below meth c nL g X Q S' cells slots lv pc st) : V p l e R s m' args below meth c nL g X Q (uR (nA S (mKnd f) q (mLen f)) (60 + f) md (some q)) cells slots lv pc st :=
  kk _ _ (iM_s hI hf hq)
end HMi
