/-! numbers, marks, what holds of the lines -/
theorem nI_mod {a d : Nat} (ha : a < 2 ^ 31) (h0 : 0 < d) (hd : d < 2 ^ 31) : nI a % nI d = nI (a % d) := by rw [← irem_eq_mod]; exact pk_rem ha h0 hd
def mkP (x : Int32) : Prop := x = 0 ∨ x = 1 ∨ x = 2
theorem ko_nat {mk ke : Int32} (hm : mkP mk) (hk : okK ke = true) : ∃ a b : Nat, a ≤ 2 ∧ b ≤ 199 ∧ mk = nI a ∧ ke = nI b ∧ 1000 * mk + ke = nI (1000 * a + b) := by
  obtain ⟨b, hb, rfl⟩ := okK_nI hk
  have e : ∀ a : Nat, (1000 : Int32) * nI a + nI b = nI (1000 * a + b) := fun a => by
    rw [show (1000 : Int32) = nI 1000 from rfl, pk_mul, nI_add]
  rcases hm with rfl | rfl | rfl
  · exact ⟨0, b, by decide, hb, rfl, rfl, e 0⟩
  · exact ⟨1, b, by decide, hb, rfl, rfl, e 1⟩
  · exact ⟨2, b, by decide, hb, rfl, rfl, e 2⟩
theorem ko_div {mk ke : Int32} (hm : mkP mk) (hk : okK ke = true) : (1000 * mk + ke) / 1000 = mk := by
  obtain ⟨a, b, ha, hb, h1, h2, h3⟩ := ko_nat hm hk
  rw [h3, h1, show (1000 : Int32) = nI 1000 from rfl, pk_div (by omega) (by decide) (by decide)]
  exact congrArg nI (by omega)
theorem ko_mod {mk ke : Int32} (hm : mkP mk) (hk : okK ke = true) : (1000 * mk + ke) % 1000 = ke := by
  obtain ⟨a, b, ha, hb, h1, h2, h3⟩ := ko_nat hm hk
  rw [h3, h2, show (1000 : Int32) = nI 1000 from rfl, nI_mod (by omega) (by decide) (by decide)]
  exact congrArg nI (by omega)
theorem ko_0 {mk ke : Int32} (h : mk = 0) : 1000 * mk + ke = ke := by rw [h, Int32.mul_zero, Int32.zero_add]
theorem ko_lt {mk ke : Int32} (hm : mkP mk) (hk : okK ke = true) : (1000 * mk + ke < 1000) ↔ mk = 0 := by
  obtain ⟨a, b, ha, hb, h1, h2, h3⟩ := ko_nat hm hk
  rw [h3, h1, show (1000 : Int32) = nI 1000 from rfl, nI_ltI (by omega) (by decide), show (0 : Int32) = nI 0 from rfl, nI_eq (by omega) (by decide)]
  omega
theorem ko_eq {mk ke k : Int32} (hm : mkP mk) (hk : okK ke = true) (hk2 : okK k = true) : (1000 * mk + ke = k) ↔ mk = 0 ∧ ke = k := by
  obtain ⟨a, b, ha, hb, h1, h2, h3⟩ := ko_nat hm hk
  obtain ⟨c, hc, rfl⟩ := okK_nI hk2
  rw [h3, h1, h2, nI_eq (by omega) (by omega), show (0 : Int32) = nI 0 from rfl, nI_eq (by omega) (by decide), nI_eq (by omega) (by omega)]
  omega
theorem mkP_0 {mk : Int32} (hm : mkP mk) (h : ¬ 0 < mk) : mk = 0 := by
  rcases hm with rfl | rfl | rfl
  · rfl
  · exact absurd (by decide) h
  · exact absurd (by decide) h
theorem okK_n1 {k : Int32} (h : okK k = true) : ¬ k = -1 := fun z => by rw [z] at h; exact absurd h (by decide)
/-- a line: its mark, when it was seen, its end -/
def lnI (d : Int32) (M : Nat → Nat → Int32) (i : Nat) : Prop := mkP (M 6 i) ∧ ((0 : Int32) ≤ M 7 i ∧ M 7 i ≤ d) ∧ (-1 : Int32) ≤ M 8 i
def lI (sc : Nat → Int32) (M : Nat → Nat → Int32) (n : Nat) : Prop := jI sc M n ∧ ((0 : Int32) ≤ sc 1 ∧ sc 1 ≤ 5000) ∧ ∀ i, i < n → lnI (sc 1) M i
/-- the law's own numbers -/
def cI (f : Nat → Int32) (sc : Nat → Int32) (M : Nat → Nat → Int32) (n nc ns : Nat) : Prop := f 0 = sc 1 ∧ f 1 = nI n ∧ f 2 = nI nc ∧ f 3 = nI ns ∧ f 4 = sc 2 ∧ f 6 = sc 29 + 1 ∧ ∀ i, i < nc → f (28 + i) = M 19 i
/-- book and law stand well -/
def lW (S : hS) (h cA : Nat) : Prop := ∃ (f : Nat → Int32) (bk ca sa : Nat) (ad pa : Nat → Nat) (sc : Nat → Int32) (M : Nat → Nat → Int32) (n nc ns : Nat), lB S h cA f bk ca sa ad pa sc M n nc ns ∧ lI sc M n ∧ cI f sc M n nc ns
/-! has it ended -/
theorem en_f1 {d e : Int32} (h : e = -1) : (0 : Int32) = b2 (en d e) := by rw [h]; rfl
theorem en_f2 {d e : Int32} (h : d < e) : (0 : Int32) = b2 (en d e) := by unfold en; rw [decide_eq_false (Int32.not_le.mpr h), Bool.and_false]; rfl
theorem en_t {d e : Int32} (h : ¬ e = -1) (h2 : ¬ d < e) : (1 : Int32) = b2 (en d e) := by unfold en; rw [decide_eq_true h, decide_eq_true (Int32.not_lt.mp h2)]; rfl
/-! what is told of a line -/
theorem jm_0 {d key : Int32} {M : Nat → Nat → Int32} {j : Nat} (h1 : M 6 j = 1) (h2 : M 5 j = key) : (0 : Int32) = jm d M j key (-1) := by
  unfold jm jmF
  rw [if_pos ⟨h1, Or.inl h2⟩]
theorem jm_n {key : Int32} {M : Nat → Nat → Int32} {j : Nat} (hk : okK (M 5 j) = true) (hn : ¬ (M 6 j = 1 ∧ M 5 j = key)) : ¬ (M 6 j = 1 ∧ (M 5 j = key ∨ M 5 j = -1)) := fun z => z.2.elim (fun w => hn ⟨z.1, w⟩) (okK_n1 hk)
theorem jm_5 {d key : Int32} {M : Nat → Nat → Int32} {j : Nat} (hk : okK (M 5 j) = true) (hn : ¬ (M 6 j = 1 ∧ M 5 j = key)) (h : 0 < M 6 j) : (5 : Int32) = jm d M j key (-1) := by
  unfold jm jmF
  rw [if_neg (jm_n hk hn), if_pos (fun z => by rw [z.1] at h; exact absurd h (by decide))]
theorem jm_5e {d key : Int32} {M : Nat → Nat → Int32} {j : Nat} (hk : okK (M 5 j) = true) (hm : mkP (M 6 j)) (h0 : ¬ 0 < M 6 j) (he : ¬ b2 (en d (M 8 j)) = 0) : (5 : Int32) = jm d M j key (-1) := by
  have e := mkP_0 hm h0
  unfold jm jmF
  rw [if_neg (jm_n hk (fun z => by rw [e] at z; exact absurd z.1 (by decide))), if_pos (fun z => he (b2_0.mpr z.2))]
theorem jm_x {d key : Int32} {M : Nat → Nat → Int32} {j : Nat} (hk : okK (M 5 j) = true) (hm : mkP (M 6 j)) (h0 : ¬ 0 < M 6 j) (he : b2 (en d (M 8 j)) = 0) : jm d M j key (-1) = if M 5 j = key then 2 else if M 5 j % 3 = key % 3 then 3 else 4 := by
  have e := mkP_0 hm h0
  unfold jm jmF
  rw [if_neg (jm_n hk (fun z => by rw [e] at z; exact absurd z.1 (by decide))), if_neg (not_not_intro ⟨e, b2_0.mp he⟩)]
theorem jm_2 {d key : Int32} {M : Nat → Nat → Int32} {j : Nat} (hk : okK (M 5 j) = true) (hm : mkP (M 6 j)) (h0 : ¬ 0 < M 6 j) (he : b2 (en d (M 8 j)) = 0) (h : 1000 * M 6 j + M 5 j = key) : (2 : Int32) = jm d M j key (-1) := by
  rw [jm_x hk hm h0 he]
  rw [ko_0 (mkP_0 hm h0)] at h
  rw [if_pos h]
theorem jm_3 {d key : Int32} {M : Nat → Nat → Int32} {j : Nat} (hk : okK (M 5 j) = true) (hm : mkP (M 6 j)) (h0 : ¬ 0 < M 6 j) (he : b2 (en d (M 8 j)) = 0) (h : ¬ 1000 * M 6 j + M 5 j = key) (h2 : (1000 * M 6 j + M 5 j) % 3 = key % 3) : (3 : Int32) = jm d M j key (-1) := by
  rw [jm_x hk hm h0 he]
  rw [ko_0 (mkP_0 hm h0)] at h h2
  rw [if_neg h, if_pos h2]
theorem jm_4 {d key : Int32} {M : Nat → Nat → Int32} {j : Nat} (hk : okK (M 5 j) = true) (hm : mkP (M 6 j)) (h0 : ¬ 0 < M 6 j) (he : b2 (en d (M 8 j)) = 0) (h : ¬ 1000 * M 6 j + M 5 j = key) (h2 : ¬ (1000 * M 6 j + M 5 j) % 3 = key % 3) : (4 : Int32) = jm d M j key (-1) := by
  rw [jm_x hk hm h0 he]
  rw [ko_0 (mkP_0 hm h0)] at h h2
  rw [if_neg h, if_neg h2]
theorem jbn_0 {d name port key : Int32} {M : Nat → Nat → Int32} {j : Nat} (h : b2 (mt M j name port) = 0) : jb d M name port key (-1) j = jb d M name port key (-1) (j + 1) := (jb_s0 (b2_0.mp h)).symm
theorem jbn_1 {d name port key : Int32} {M : Nat → Nat → Int32} {j : Nat} (h : ¬ b2 (mt M j name port) = 0) (h2 : jb d M name port key (-1) j ≤ jm d M j key (-1)) : jb d M name port key (-1) j = jb d M name port key (-1) (j + 1) := by
  rw [jb_s1 (b2_n0 h), imin_l h2]
theorem jbn_2 {d name port key : Int32} {M : Nat → Nat → Int32} {j : Nat} (h : ¬ b2 (mt M j name port) = 0) (h2 : ¬ jb d M name port key (-1) j ≤ jm d M j key (-1)) : jm d M j key (-1) = jb d M name port key (-1) (j + 1) := by
  rw [jb_s1 (b2_n0 h), imin_r (Int32.not_le.mp h2)]
