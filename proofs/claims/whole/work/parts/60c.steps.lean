/-! BOTH SIDES STEP BY STEP: the state of both, with what the latest call threw (r), wrote (w) and the model answered (v) -/
def jA (S : hS) (h md : Nat) (sc : Nat → Int32) : Prop := ∃ (bk ca sa : Nat) (ad pa ar : Nat → Nat) (M : Nat → Nat → Int32) (n nc ns : Nat), cG S h bk ca sa ad pa ∧ cC S h ca sa ad pa sc M n nc ns ∧ mS S md ar sc M ∧ jI sc M n
def jS (S : hS) (h md : Nat) : Prop := ∃ sc : Nat → Int32, jA S h md sc
def jT (S : hS) (h md : Nat) (ar : Nat → Nat) (r : Int32) (w v : Int64) : Prop := jS S h md ∧ (∃ (sc : Nat → Int32) (M : Nat → Nat → Int32), mS S md ar sc M ∧ sc 0 = r) ∧ (r = 0 → w = v)
section JStep
variable {S S1 S2 : hS} {h bk ca sa md : Nat} {ad ad' pa ar : Nat → Nat} {sc sc' : Nat → Int32} {M M' : Nat → Nat → Int32} {n n' nc nc' ns ns' : Nat} {r : Int32} {w v : Int64} {A B C : Bool}
/-- the call threw, on both sides in the same place -/
theorem j_thrown (hG : cG S h bk ca sa ad pa) (hC : cC S h ca sa ad pa (va_up sc 0 0) M n nc ns) (hI : jI sc M n) (k : Int32) (hk : ¬ k = 0) (hr : r = k) (hS : S1 = S) (hm : mdF S1 S2) (hM : mS S2 md ar (va_up sc 0 k) M) : jT S2 h md ar r w v := by
  subst hS
  refine ⟨⟨va_up sc 0 k, bk, ca, sa, ad, pa, ar, M, n, nc, ns, cG_md hG hm.N, ?_, hM, jI_up hI (by decide)⟩, ⟨_, _, hM, by rw [va_up_self]; exact hr.symm⟩, fun z => absurd (hr.symm.trans z) hk⟩
  exact cC_sc (cC_md hG hC hm.N) (fun x hx => by rw [va_up_ne _ _ hx, va_up_ne _ _ hx])
/-- the call came to its end on both sides, with the same answer -/
theorem j_done (hP : cP S S1 h bk ca sa ad' pa sc' M' n' nc' ns') (hm : mdF S1 S2) (hM : mS S2 md ar sc' M') (hI : jI sc' M' n') (h0 : sc' 0 = 0) (hr : r = 0) (hw : w = v) : jT S2 h md ar r w v :=
  ⟨⟨sc', bk, ca, sa, ad', pa, ar, M', n', nc', ns', cG_md hP.1 hm.N, cC_md hP.1 hP.2.1 hm.N, hM, hI⟩, ⟨_, _, hM, h0.trans hr.symm⟩, fun _ => hw⟩
theorem pw1_cl {k : Int32} {PI : Int64 → hS → Prop} (hw : pw1 S k A PI r w S1) (hP : PI w S1 → clF S S1) : clF S S1 := by
  rcases hw with ⟨-, -, rfl⟩ | ⟨-, z⟩
  · exact clF.rf _
  · exact hP z
theorem pw2_cl {PI : Int64 → hS → Prop} (hw : pw2 S A B PI r w S1) (hP : PI w S1 → clF S S1) : clF S S1 := by
  rcases hw with ⟨-, -, rfl⟩ | ⟨-, -, -, rfl⟩ | ⟨-, z⟩
  · exact clF.rf _
  · exact clF.rf _
  · exact hP z
theorem pw3_cl {PI : Int64 → hS → Prop} (hw : pw3 S A B C PI r w S1) (hP : PI w S1 → clF S S1) : clF S S1 := by
  rcases hw with ⟨-, -, rfl⟩ | ⟨-, -, -, rfl⟩ | ⟨-, -, -, -, rfl⟩ | ⟨-, z⟩
  · exact clF.rf _
  · exact clF.rf _
  · exact clF.rf _
  · exact hP z
theorem bx {b : Bool} {P : Prop} (h1 : b = false) (h2 : b = true) : P := by rw [h1] at h2; exact absurd h2 (by decide)
theorem jn1 {PI : Int64 → hS → Prop} {α : Type} {x y : α} {k : Int32} (hw : pw1 S k A PI r w S1) (hk : ¬ k = 0) (hA1 : PI w S1 → A = true) (hG : cG S h bk ca sa ad pa) (hC : cC S h ca sa ad pa (va_up sc 0 0) M n nc ns) (hI : jI sc M n)
    (hp : mdF S1 S2 ∧ ((A = false ∧ mS S2 md ar (va_up sc 0 k) M) ∨ (A = true ∧ x = y ∧ mS S2 md ar sc' M'))) (ok : A = true → r = 0 → PI w S1 → x = y → mS S2 md ar sc' M' → mdF S1 S2 → jT S2 h md ar r w v) : jT S2 h md ar r w v := by
  obtain ⟨hm, hp⟩ := hp
  rcases hw with ⟨a1, a2, a3⟩ | ⟨a1, a2⟩
  · rcases hp with ⟨-, b2⟩ | ⟨b1, -⟩
    · exact j_thrown hG hC hI k hk a2 a3 hm b2
    · exact bx a1 b1
  · have z := hA1 a2
    rcases hp with ⟨b1, -⟩ | ⟨-, b2, b3⟩
    · exact bx b1 z
    · exact ok z a1 a2 b2 b3 hm
theorem jn2 {PI : Int64 → hS → Prop} {x y : Int32} (hw : pw2 S A B PI r w S1) (hA1 : PI w S1 → A = true ∧ B = true) (hG : cG S h bk ca sa ad pa) (hC : cC S h ca sa ad pa (va_up sc 0 0) M n nc ns) (hI : jI sc M n)
    (hp : mdF S1 S2 ∧ ((A = false ∧ mS S2 md ar (va_up sc 0 1) M) ∨ (A = true ∧ B = false ∧ mS S2 md ar (va_up sc 0 2) M) ∨ (A = true ∧ B = true ∧ x = y ∧ mS S2 md ar sc' M'))) (ok : A = true → B = true → r = 0 → PI w S1 → x = y → mS S2 md ar sc' M' → mdF S1 S2 → jT S2 h md ar r w v) : jT S2 h md ar r w v := by
  obtain ⟨hm, hp⟩ := hp
  rcases hw with ⟨a1, a2, a3⟩ | ⟨a0, a1, a2, a3⟩ | ⟨a1, a2⟩
  · rcases hp with ⟨-, b2⟩ | ⟨b1, -⟩ | ⟨b1, -⟩
    · exact j_thrown hG hC hI 1 (by decide) a2 a3 hm b2
    · exact bx a1 b1
    · exact bx a1 b1
  · rcases hp with ⟨b1, -⟩ | ⟨-, -, b2⟩ | ⟨-, b1, -⟩
    · exact bx b1 a0
    · exact j_thrown hG hC hI 2 (by decide) a2 a3 hm b2
    · exact bx a1 b1
  · obtain ⟨z1, z2⟩ := hA1 a2
    rcases hp with ⟨b1, -⟩ | ⟨-, b1, -⟩ | ⟨-, -, b2, b3⟩
    · exact bx b1 z1
    · exact bx b1 z2
    · exact ok z1 z2 a1 a2 b2 b3 hm
theorem jn3 {PI : Int64 → hS → Prop} {x y : Int32} (hw : pw3 S A B C PI r w S1) (hA1 : PI w S1 → A = true ∧ B = true ∧ C = true) (hG : cG S h bk ca sa ad pa) (hC : cC S h ca sa ad pa (va_up sc 0 0) M n nc ns) (hI : jI sc M n)
    (hp : mdF S1 S2 ∧ ((A = false ∧ mS S2 md ar (va_up sc 0 1) M) ∨ (A = true ∧ B = false ∧ mS S2 md ar (va_up sc 0 2) M) ∨ (A = true ∧ B = true ∧ C = false ∧ mS S2 md ar (va_up sc 0 3) M) ∨ (A = true ∧ B = true ∧ C = true ∧ x = y ∧ mS S2 md ar sc' M'))) (ok : A = true → B = true → C = true → r = 0 → PI w S1 → x = y → mS S2 md ar sc' M' → mdF S1 S2 → jT S2 h md ar r w v) : jT S2 h md ar r w v := by
  obtain ⟨hm, hp⟩ := hp
  rcases hw with ⟨a1, a2, a3⟩ | ⟨a0, a1, a2, a3⟩ | ⟨a0, a9, a1, a2, a3⟩ | ⟨a1, a2⟩
  · rcases hp with ⟨-, b2⟩ | ⟨b1, -⟩ | ⟨b1, -⟩ | ⟨b1, -⟩
    · exact j_thrown hG hC hI 1 (by decide) a2 a3 hm b2
    · exact bx a1 b1
    · exact bx a1 b1
    · exact bx a1 b1
  · rcases hp with ⟨b1, -⟩ | ⟨-, -, b2⟩ | ⟨-, b1, -⟩ | ⟨-, b1, -⟩
    · exact bx b1 a0
    · exact j_thrown hG hC hI 2 (by decide) a2 a3 hm b2
    · exact bx a1 b1
    · exact bx a1 b1
  · rcases hp with ⟨b1, -⟩ | ⟨-, b1, -⟩ | ⟨-, -, -, b2⟩ | ⟨-, -, b1, -⟩
    · exact bx b1 a0
    · exact bx b1 a9
    · exact j_thrown hG hC hI 3 (by decide) a2 a3 hm b2
    · exact bx a1 b1
  · obtain ⟨z1, z2, z3⟩ := hA1 a2
    rcases hp with ⟨b1, -⟩ | ⟨-, b1, -⟩ | ⟨-, -, b1, -⟩ | ⟨-, -, -, b2, b3⟩
    · exact bx b1 z1
    · exact bx b1 z2
    · exact bx b1 z3
    · exact ok z1 z2 z3 a1 a2 b2 b3 hm
end JStep
