/-- behind a step of the class from S to S': its cells and what they hold, the model's cells as they were -/
def cP (S S' : hS) (h bk ca sa : Nat) (ad pa : Nat → Nat) (sc : Nat → Int32) (M : Nat → Nat → Int32) (n nc ns : Nat) : Prop := cG S' h bk ca sa ad pa ∧ cC S' h ca sa ad pa sc M n nc ns ∧ clF S S'
theorem cG_appS {S : hS} {h bk ca sa : Nat} {ad pa : Nat → Nat} {a n : Nat} {mk key day : Int32} (hG : cG S h bk ca sa ad pa) : cG (appS S h a n mk key day) h bk ca sa ad pa := by
  unfold appS beginS
  exact cG_uF _ _ _ (cG_uF _ _ _ (cG_uF _ _ _ (cG_uF _ _ _ (cG_uF _ _ _ (cG_uF _ _ _ (cG_uF _ _ _ hG))))))
theorem cG_hashS {S : hS} {h bk ca sa : Nat} {ad pa : Nat → Nat} {a : Nat} {name port salt : Int32} (hG : cG S h bk ca sa ad pa) : cG (hashS S a name port salt) h bk ca sa ad pa := by
  unfold hashS
  exact cG_uF _ _ _ (cG_uF _ _ _ (cG_uF _ _ _ (cG_uF _ _ _ hG)))
theorem appS_16 {S : hS} {h a n : Nat} {mk key day : Int32} : sF (appS S h a n mk key day) 16 a = 0 ∧ sF (appS S h a n mk key day) 15 a = nI 0 := by
  unfold appS beginS
  simp only [tF_uF]
  simp [nI_0]
theorem okK_nI {v : Int32} (h : okK v = true) : ∃ j : Nat, j ≤ 199 ∧ v = nI j := by
  unfold okK inR at h
  rw [Bool.and_eq_true, decide_eq_true_eq, decide_eq_true_eq] at h
  exact nI_of2 (M := 199) (n := 199) rfl (Int32.not_lt.mpr h.1) h.2
theorem okN_nI {v : Int32} (h : okN v = true) : ∃ j : Nat, j ≤ 9999 ∧ v = nI j := by
  unfold okN inR at h
  rw [Bool.and_eq_true, decide_eq_true_eq, decide_eq_true_eq] at h
  exact nI_of2 (M := 9999) (n := 9999) rfl (Int32.not_lt.mpr h.1) h.2
theorem salt_ok {name key : Int32} (h1 : okN name = true) (h2 : okK key = true) : ¬ (7 * name + key) % 100 = -1 := by
  obtain ⟨a, ha, rfl⟩ := okN_nI h1
  obtain ⟨b, hb, rfl⟩ := okK_nI h2
  have e : (7 * nI a + nI b) % 100 = nI ((7 * a + b) % 100) := by
    rw [show (7 : Int32) = nI 7 from rfl, pk_mul, nI_add, show (100 : Int32) = nI 100 from rfl, ← irem_eq_mod]
    exact pk_rem (by omega) (by omega) (by omega)
  rw [e]
  intro z
  have h3 : ¬ nI ((7 * a + b) % 100) < 0 := nI_pos (by omega)
  rw [z] at h3
  exact h3 (by decide)
theorem nI_pred' (n : Nat) : nI (n + 1) - 1 = nI n := nI_pred n
def okA (M : Nat → Nat → Int32) (j : Nat) : Bool := decide (M 9 j = -1) && decide (sz M j < 4)
theorem lnR_k {S : hS} {a pa i k : Nat} {pt : Nat → Nat} {M : Nat → Nat → Int32} (h : lnR S a pa pt M i k) : (decide (sF S 16 a = 0) && decide (k < 4)) = okA M i := by
  unfold okA
  rw [sz_of h]
  rcases h.2.2.1 with ⟨h1, h2, -⟩ | ⟨h1, h2⟩
  · rw [h1, decide_eq_false h2]; rfl
  · rw [h1, h2]; rfl
theorem b_app {S : hS} {h a n x j : Nat} {mk key day : Int32} {r : Option Nat} (hr : sB S x j = r) : sB (appS S h a n mk key day) x j = r := by rw [sB_appS]; exact hr
theorem r_app {S : hS} {h a n x b : Nat} {mk key day : Int32} {r : Option Nat} (hr : sR S x b = r) : sR (appS S h a n mk key day) x b = r := by
  unfold appS beginS
  exact r_uF (r_uF (r_uF (r_uF (r_uF (r_uF (r_uF hr))))))
theorem n_app {S : hS} {h a n b N : Nat} {mk key day : Int32} (hr : sN S b = N) : sN (appS S h a n mk key day) b = N := by
  unfold appS beginS
  exact n_uF (n_uF (n_uF (n_uF (n_uF (n_uF (n_uF hr))))))
theorem lt_of_nI {x : Int32} {n N : Nat} (hx : x = nI n) (hn : n < 2 ^ 31) (hN : N < 2 ^ 31) (h : x < nI N) : n < N := by rw [hx] at h; exact (nI_ltI hn hN).mp h
theorem nlt_of_nI {x : Int32} {n N : Nat} (hx : x = nI n) (hn : n < 2 ^ 31) (hN : N < 2 ^ 31) (h : ¬ x < nI N) : ¬ n < N := by rw [hx] at h; exact fun z => h ((nI_ltI hn hN).mpr z)
theorem b_hash {S : hS} {a x j : Nat} {name port salt : Int32} {r : Option Nat} (hr : sB S x j = r) : sB (hashS S a name port salt) x j = r := by rw [sB_hashS]; exact hr
theorem r_hash {S : hS} {a x b : Nat} {name port salt : Int32} {r : Option Nat} (hr : sR S x b = r) : sR (hashS S a name port salt) x b = r := by
  unfold hashS
  exact r_uF (r_uF (r_uF (r_uF hr)))
theorem n_hash {S : hS} {a b N : Nat} {name port salt : Int32} (hr : sN S b = N) : sN (hashS S a name port salt) b = N := by
  unfold hashS
  exact n_uF (n_uF (n_uF (n_uF hr)))

