/-- a call that only reads, on both sides -/
theorem j_read {S S2 : hS} {h bk ca sa md : Nat} {ad pa ar : Nat → Nat} {sc : Nat → Int32} {M : Nat → Nat → Int32} {n nc ns : Nat} (hG : cG S h bk ca sa ad pa) (hC : cC S h ca sa ad pa sc M n nc ns) (hI : jI sc M n) (hm : mdF S S2) (hM : mS S2 md ar (va_up sc 0 0) M) : jS S2 h md :=
  ⟨va_up sc 0 0, bk, ca, sa, ad, pa, ar, M, n, nc, ns, cG_md hG hm.N, cC_sc (cC_md hG hC hm.N) (fun x hx => va_up_ne _ _ hx), hM, jI_up hI (by decide)⟩
/-- the class's contents with 0 for what was thrown -/
theorem cC_z {S : hS} {h ca sa : Nat} {ad pa : Nat → Nat} {sc : Nat → Int32} {M : Nat → Nat → Int32} {n nc ns : Nat} (hC : cC S h ca sa ad pa sc M n nc ns) : cC S h ca sa ad pa (va_up sc 0 0) M n nc ns := cC_sc hC (fun x hx => va_up_ne _ _ hx)
/-- at the start: two new objects -/
theorem j_new {S S1 S2 : hS} {h md : Nat} {ar : Nat → Nat} (hP : ∃ bk ca sa ad pa, cP S S1 h bk ca sa ad pa sc0 M0 0 0 0) (hM : mS S2 md ar sc0 M0) (hm : mdN S1 S2) : jS S2 h md := by
  obtain ⟨bk, ca, sa, ad, pa, hP⟩ := hP
  exact ⟨sc0, bk, ca, sa, ad, pa, ar, M0, 0, 0, 0, cG_md hP.1 hm, cC_md hP.1 hP.2.1 hm, hM, jI_0⟩
