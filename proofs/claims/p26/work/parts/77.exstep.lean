/-! what a step's calls leave -/
theorem fd_wit {f : Nat → Bool} {n j : Nat} (hj : j < n) (hf : f j = true) : ∀ r, r ≤ n → n - r ≤ j → ∃ k, k ≤ j ∧ fd f n r = nI k := by
  intro r
  induction r with
  | zero => intro _ h; omega
  | succ r ih =>
    intro hr h
    rw [fd]
    by_cases hk : f (n - (r + 1)) = true
    · rw [if_pos hk]; exact ⟨_, h, rfl⟩
    · rw [if_neg hk]
      refine ih (by omega) ?_
      by_cases he : n - (r + 1) = j
      · rw [he] at hk; exact absurd hf hk
      · omega
def kdN (A : Nat) : Nat := if A % 5 = 0 then 200 else 6
theorem kdN_in (A : Nat) : 1 ≤ kdN A ∧ kdN A ≤ 200 := by unfold kdN; split <;> omega
theorem kd_0 {A : Nat} (hA1 : A < 2 ^ 31) (h : nI A % 5 = 0) : (200 : Int32) = nI (kdN A) := by
  unfold kdN; rw [if_pos ((m_0 (d := 5) hA1 (by decide) (by decide)).mp h)]; rfl
theorem kd_1 {A : Nat} (hA1 : A < 2 ^ 31) (h : ¬ nI A % 5 = 0) : (6 : Int32) = nI (kdN A) := by
  unfold kdN; rw [if_neg (fun z => h ((m_0 (d := 5) hA1 (by decide) (by decide)).mpr z))]; rfl
def hmN (B : Nat) : Nat := if B % 11 = 0 then 1 else 0
theorem hmN_le (B : Nat) : hmN B ≤ 2 := by unfold hmN; split <;> omega
theorem hmN_P (B : Nat) : mkP (nI (hmN B)) := by
  unfold hmN; split
  · exact Or.inr (Or.inl rfl)
  · exact Or.inl rfl
theorem hm_0 {B : Nat} (hb2 : B < 2 ^ 31) (h : nI B % 11 = 0) : (1 : Int32) = nI (hmN B) := by
  unfold hmN; rw [if_pos ((m_0 (d := 11) hb2 (by decide) (by decide)).mp h)]; rfl
theorem hm_1 {B : Nat} (hb2 : B < 2 ^ 31) (h : ¬ nI B % 11 = 0) : (0 : Int32) = nI (hmN B) := by
  unfold hmN; rw [if_neg (fun z => h ((m_0 (d := 11) hb2 (by decide) (by decide)).mpr z))]; rfl
def coN (A nc : Nat) : Option Nat := if nc = 0 ∨ A % 2 = 0 then none else some (A / 2 % nc)
theorem coN_lt {A nc : Nat} : ∀ c, coN A nc = some c → c < nc := fun c h => by
  unfold coN at h
  split at h
  · cases h
  · rename_i hn
    cases h
    exact Nat.mod_lt _ (by omega)
theorem cq_0 {A nc : Nat} (hnc : nc ≤ 20) (h : nI nc = 0) : (-1 : Int32) = lCt (coN A nc) := by
  rw [show (0 : Int32) = nI 0 from rfl, nI_eq (by omega) (by decide)] at h
  unfold coN; rw [if_pos (Or.inl h)]; rfl
theorem cq_1 {A nc : Nat} (hA1 : A < 2 ^ 31) (h : nI A % 2 = 0) : (-1 : Int32) = lCt (coN A nc) := by
  unfold coN; rw [if_pos (Or.inr ((m_0 (d := 2) hA1 (by decide) (by decide)).mp h))]; rfl
theorem cq_2 {A nc : Nat} (hA1 : A < 2 ^ 31) (hnc : nc ≤ 20) (h : ¬ nI nc = 0) (h2 : ¬ nI A % 2 = 0) : nI (A / 2) % nI nc = lCt (coN A nc) := by
  rw [show (0 : Int32) = nI 0 from rfl, nI_eq (by omega) (by decide)] at h
  rw [nI_mod (by omega) (by omega) (by omega)]
  unfold coN
  rw [if_neg (fun z => z.elim h (fun w => h2 ((m_0 (d := 2) hA1 (by decide) (by decide)).mpr w)))]
  rfl
theorem sb_1 {B : Nat} (h : nI (B % 2) = 1) : (1 : Int32) = b2 (decide (B % 2 = 1)) := by
  rw [show (1 : Int32) = nI 1 from rfl, nI_eq (by omega) (by decide)] at h
  rw [decide_eq_true h]; rfl
theorem sb_0 {B : Nat} (h : ¬ nI (B % 2) = 1) : (0 : Int32) = b2 (decide (B % 2 = 1)) := by
  rw [show (1 : Int32) = nI 1 from rfl, nI_eq (by omega) (by decide)] at h
  rw [decide_eq_false h]; rfl
section HEx5
variable {S' : hS} {h cA bk ca sa : Nat} {f : Nat → Int32} {ad pa : Nat → Nat} {sc : Nat → Int32} {M : Nat → Nat → Int32} {n nc ns : Nat} {r mk key name port salt : Int32}
theorem ex_hash (hB : r = nI n ∧ lB S' h cA (va_up f 1 (nI (n + 1))) bk ca sa ad pa (scN sc (n + 1)) (aHash (aAdd M n mk key (sc 1)) n name port salt) (n + 1) nc ns) (hI : lI sc M n) (hcI : cI f sc M n nc ns) (hm : mkP mk) (hk : okK key = true) (hs : ¬ salt = -1) :
    ∃ (sc1 : Nat → Int32) (M1 : Nat → Nat → Int32), r = nI n ∧ lB S' h cA (va_up f 1 (nI (n + 1))) bk ca sa ad pa sc1 M1 (n + 1) nc ns ∧ lI sc1 M1 (n + 1) ∧ cI (va_up f 1 (nI (n + 1))) sc1 M1 (n + 1) nc ns ∧ ∀ a p, mt M1 n a p = (decide (port = p) && decide (hsh name salt = hsh a salt)) := by
  refine ⟨_, _, hB.1, hB.2, lI_hash (lI_add hI hm hk), cI_n hcI (fun i _ => by rw [aHash_ge (by omega), aAdd_ge (by decide)]), fun a p => ?_⟩
  have e9 : aHash (aAdd M n mk key (sc 1)) n name port salt 9 n = salt := by
    unfold aHash; rw [u2_ne1 (by decide), u2_ne1 (by decide), u2_eq]
  have e10 : aHash (aAdd M n mk key (sc 1)) n name port salt 10 n = hsh name salt := by
    unfold aHash; rw [u2_ne1 (by decide), u2_eq]
  have e11 : aHash (aAdd M n mk key (sc 1)) n name port salt 11 n = port := by
    unfold aHash; rw [u2_eq]
  unfold mt
  rw [e9, e10, e11, if_neg hs]
theorem ex_rem {j : Nat} (hj : j < n) (hB : r = M 5 j ∧ ∃ ad', lB S' h cA (va_up f 1 (nI (n - 1))) bk ca sa ad' pa (scN sc (n - 1)) (aRem M j n) (n - 1) nc ns) (hI : lI sc M n) (hcI : cI f sc M n nc ns) :
    ∃ (ad1 : Nat → Nat) (sc1 : Nat → Int32) (M1 : Nat → Nat → Int32), r = M 5 j ∧ lB S' h cA (va_up f 1 (nI (n - 1))) bk ca sa ad1 pa sc1 M1 (n - 1) nc ns ∧ lI sc1 M1 (n - 1) ∧ cI (va_up f 1 (nI (n - 1))) sc1 M1 (n - 1) nc ns := by
  obtain ⟨n0, rfl⟩ : ∃ n0, n = n0 + 1 := ⟨n - 1, by omega⟩
  obtain ⟨hr, ad', hB⟩ := hB
  exact ⟨ad', _, _, hr, hB, lI_rem hI hj, cI_n hcI (fun i _ => aRem_lo (by omega))⟩
theorem ex_sight {rule b v5 : Int32} (hB : r = sc 2 ∧ lB S' h cA (va_up (va_up f 4 rule) 5 v5) bk ca sa ad pa (aSight sc rule b) M n nc ns) (hI : lI sc M n) (hcI : cI f sc M n nc ns) :
    ∃ sc1 : Nat → Int32, r = sc 2 ∧ lB S' h cA (va_up (va_up f 4 rule) 5 v5) bk ca sa ad pa sc1 M n nc ns ∧ lI sc1 M n ∧ cI (va_up (va_up f 4 rule) 5 v5) sc1 M n nc ns := by
  have e : ∀ x, x ≠ 2 → x ≠ 3 → aSight sc rule b x = sc x := fun x h2 h3 => by
    unfold aSight; rw [va_up_ne _ _ h3, va_up_ne _ _ h2]
  refine ⟨_, hB.1, hB.2, lI_sc hI (e 1 (by decide) (by decide)) (e 29 (by decide) (by decide)) (e 30 (by decide) (by decide)), ?_⟩
  obtain ⟨a0, a1, a2, a3, a4, a6, a⟩ := hcI
  refine ⟨?_, ?_, ?_, ?_, ?_, ?_, fun i hi => ?_⟩
  · rw [va_up_ne _ _ (by decide), va_up_ne _ _ (by decide), e 1 (by decide) (by decide)]; exact a0
  · rw [va_up_ne _ _ (by decide), va_up_ne _ _ (by decide)]; exact a1
  · rw [va_up_ne _ _ (by decide), va_up_ne _ _ (by decide)]; exact a2
  · rw [va_up_ne _ _ (by decide), va_up_ne _ _ (by decide)]; exact a3
  · rw [va_up_ne _ _ (by decide), va_up_self]
    unfold aSight; rw [va_up_ne _ _ (by decide), va_up_self]
  · rw [va_up_ne _ _ (by decide), va_up_ne _ _ (by decide), e 29 (by decide) (by decide)]; exact a6
  · rw [va_up_ne _ _ (by omega), va_up_ne _ _ (by omega)]; exact a i hi
theorem ex_pass {d0 dd : Nat} (hd0 : sc 1 = nI d0) (hd : nI (d0 + dd) ≤ 5000) (hs : d0 + dd < 2 ^ 31) (hB : r = sc 1 + nI dd ∧ lB S' h cA (va_up f 0 (nI (d0 + dd))) bk ca sa ad pa (va_up sc 1 (sc 1 + nI dd)) M n nc ns) (hI : lI sc M n) (hcI : cI f sc M n nc ns) :
    ∃ sc1 : Nat → Int32, r = nI (d0 + dd) ∧ lB S' h cA (va_up f 0 (nI (d0 + dd))) bk ca sa ad pa sc1 M n nc ns ∧ lI sc1 M n ∧ cI (va_up f 0 (nI (d0 + dd))) sc1 M n nc ns := by
  have e : sc 1 + nI dd = nI (d0 + dd) := by rw [hd0, nI_add]
  rw [e] at hB
  have hle : sc 1 ≤ nI (d0 + dd) := by rw [hd0]; exact nI_le (Nat.le_add_right _ _) hs
  refine ⟨_, hB.1, hB.2, ⟨jI_up hI.1 (by decide), by rw [va_up_self]; exact ⟨nI_pos' hs, hd⟩, fun i hi => ?_⟩, ?_⟩
  · rw [va_up_self]
    exact ⟨(hI.2.2 i hi).1, ⟨(hI.2.2 i hi).2.1.1, Int32.le_trans (hI.2.2 i hi).2.1.2 hle⟩, (hI.2.2 i hi).2.2⟩
  · obtain ⟨a0, a1, a2, a3, a4, a6, a⟩ := hcI
    refine ⟨?_, ?_, ?_, ?_, ?_, ?_, fun i hi => ?_⟩
    · rw [va_up_self, va_up_self]
    · rw [va_up_ne _ _ (by decide)]; exact a1
    · rw [va_up_ne _ _ (by decide)]; exact a2
    · rw [va_up_ne _ _ (by decide)]; exact a3
    · rw [va_up_ne _ _ (by decide), va_up_ne _ _ (by decide)]; exact a4
    · rw [va_up_ne _ _ (by decide), va_up_ne _ _ (by decide)]; exact a6
    · rw [va_up_ne _ _ (by omega)]; exact a i hi
end HEx5
