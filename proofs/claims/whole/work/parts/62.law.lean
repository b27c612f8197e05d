/-! THE LAW'S OWN WALK: what its cases share -/
/-- a contract may say less -/
theorem hMet.mono {l : Launch} {y : MethodName} {ws : List Cond} {rm : Room} {g : hG} {X : va_W} {S : hS} {av : List Value} {post post' : Option Value → hS → Prop} (h : hMet l y ws rm g X S av post) (hp : ∀ v S', post v S' → post' v S') : hMet l y ws rm g X S av post' := by
  intro p e ha hc hk s m args below hf hpre hv hfree
  obtain ⟨k, o, h1, h2, h3, ⟨⟨v, S', e1, e2, e3⟩, h5⟩, h6⟩ := h p e ha hc hk s m args below hf hpre hv hfree
  exact ⟨k, o, h1, h2, h3, ⟨⟨v, S', e1, hp v S' e2, e3⟩, h5⟩, h6⟩
def bz (x : Int32) : Int32 := if x = 0 then 0 else 1
theorem bz_b (x : Int32) : isB (bz x) := by
  unfold bz isB
  by_cases h : x = 0
  · rw [if_pos h]; exact Or.inl rfl
  · rw [if_neg h]; exact Or.inr rfl
theorem bz_0 {x : Int32} (h : x = 0) : bz x = 0 := if_pos h
theorem bz_1 {x : Int32} (h : ¬ x = 0) : bz x = 1 := if_neg h
theorem lw_b1 {k a N : Nat} (h : a ≤ N) : k + a ≤ k + N := by omega
theorem lw_b2 {k a b N : Nat} (h : a + b ≤ N) : k + a + b ≤ k + N := by omega
theorem lw_b3 {k a b c N : Nat} (h : a + b + c ≤ N) : k + a + b + c ≤ k + N := by omega
