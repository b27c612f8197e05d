/-! a line's matching by its rows -/
theorem mt_at {M M' : Nat → Nat → Int32} {i i' : Nat} (h : ∀ f, 9 ≤ f → f ≤ 12 → M' f i' = M f i) (h4 : ∀ f k, 13 ≤ f → f ≤ 16 → k < 4 → M' f (4 * i' + k) = M f (4 * i + k)) (hs : sz M i ≤ 4) (a p : Int32) : mt M' i' a p = mt M i a p := by
  have es : sz M' i' = sz M i := by unfold sz; rw [h 12 (by decide) (by decide)]
  have ef : ∀ k, k < 4 → ft M' i' a p k = ft M i a p k := fun k hk => by
    unfold ft
    rw [h4 13 k (by decide) (by decide) hk, h4 14 k (by decide) (by decide) hk, h4 15 k (by decide) (by decide) hk]
  have ed : ∀ k, k < 4 → dn M' i' k = dn M i k := fun k hk => by
    unfold dn
    rw [h4 16 k (by decide) (by decide) hk]
  unfold mt
  rw [h 9 (by decide) (by decide), h 10 (by decide) (by decide), h 11 (by decide) (by decide), es]
  split
  · unfold mtch
    rw [anyN_congr (f := fun k => ft M' i' a p k && !dn M' i' k) (f' := fun k => ft M i a p k && !dn M i k) (fun k hk => by rw [ef k (by omega), ed k (by omega)]), anyN_congr (f := fun k => ft M' i' a p k && dn M' i' k) (f' := fun k => ft M i a p k && dn M i k) (fun k hk => by rw [ef k (by omega), ed k (by omega)])]
  · rfl
theorem sz_le {M : Nat → Nat → Int32} {n : Nat} (h : ∀ i, i < n → ∃ k, k ≤ 4 ∧ M 12 i = nI k) {i : Nat} (hi : i < n) : sz M i ≤ 4 := by
  obtain ⟨k, hk, e⟩ := h i hi
  unfold sz
  rw [e, nI_clamp (by omega)]
  exact hk
theorem jm_at {day key au : Int32} {M M' : Nat → Nat → Int32} {i i' : Nat} (h5 : M' 5 i' = M 5 i) (h6 : M' 6 i' = M 6 i) (h8 : M' 8 i' = M 8 i) : jm day M' i' key au = jm day M i key au := by
  unfold jm; rw [h5, h6, h8]
/-! what an answer does to the law's numbers -/
def aDv (J s : Int32) (n : Nat) : Bool := decide (J = 5) && decide (s = 0) && decide (n < 40)
def wDv (J s : Int32) : Bool := decide (J = 4) || (decide (J = 5) && decide (s = 1))
def nAv (n : Nat) (b : Bool) : Nat := n + (if b = true then 1 else 0)
def wVv (b : Bool) (key : Int32) : Int32 := if b = true then key else -1
theorem ad_1 {J s : Int32} {n : Nat} (h : J = 5) (h2 : s = 0) (h3 : ¬ 40 ≤ nI n) (hn : n ≤ 40) : (1 : Int32) = b2 (aDv J s n) := by
  unfold aDv
  rw [decide_eq_true h, decide_eq_true h2, decide_eq_true (lt_nle (d := 40) (by omega) (by decide) h3)]; rfl
theorem ad_a {J s : Int32} {n : Nat} (h : ¬ J = 5) : (0 : Int32) = b2 (aDv J s n) := by unfold aDv; rw [decide_eq_false h]; rfl
theorem ad_b {J s : Int32} {n : Nat} (h : ¬ s = 0) : (0 : Int32) = b2 (aDv J s n) := by unfold aDv; rw [decide_eq_false h, Bool.and_false]; rfl
theorem ad_c {J s : Int32} {n : Nat} (h : 40 ≤ nI n) (hn : n ≤ 40) : (0 : Int32) = b2 (aDv J s n) := by
  have e : ¬ n < 40 := fun z => nI_ge (a := n) (b := 40) z (by decide) h
  unfold aDv; rw [decide_eq_false e, Bool.and_false]; rfl
theorem aDv_t {J s : Int32} {n : Nat} (h : aDv J s n = true) : J = 5 ∧ s = 0 ∧ n < 40 := by
  unfold aDv at h
  rw [Bool.and_eq_true, Bool.and_eq_true, decide_eq_true_eq, decide_eq_true_eq, decide_eq_true_eq] at h
  exact ⟨h.1.1, h.1.2, h.2⟩
theorem wd_1 {J s : Int32} (h : J = 4) : (1 : Int32) = b2 (wDv J s) := by unfold wDv; rw [decide_eq_true h]; rfl
theorem wd_2 {J s : Int32} (h : J = 5) (h2 : s = 1) : (1 : Int32) = b2 (wDv J s) := by unfold wDv; rw [decide_eq_true h, decide_eq_true h2, Bool.and_true, Bool.or_true]; rfl
theorem wd_a {J s : Int32} (h : ¬ J = 4) (h2 : ¬ J = 5) : (0 : Int32) = b2 (wDv J s) := by unfold wDv; rw [decide_eq_false h, decide_eq_false h2]; rfl
theorem wd_b {J s : Int32} (h : ¬ J = 4) (h2 : ¬ s = 1) : (0 : Int32) = b2 (wDv J s) := by unfold wDv; rw [decide_eq_false h, decide_eq_false h2, Bool.and_false]; rfl
theorem wDv_iff {J s : Int32} : wDv J s = true ↔ J = 4 ∨ (J = 5 ∧ s = 1) := by
  unfold wDv
  rw [Bool.or_eq_true, Bool.and_eq_true, decide_eq_true_eq, decide_eq_true_eq, decide_eq_true_eq]
theorem b2_one {b : Bool} (h : ¬ b2 b = 0) : (1 : Int32) = b2 b := by rw [b2_n0 h]; rfl
theorem nI_b2 {n : Nat} {b : Bool} : nI n + b2 b = nI (nAv n b) := by
  cases b with
  | false => exact Int32.add_zero _
  | true => exact nI_1 n
theorem wv_1 {b : Bool} {key : Int32} (h : ¬ b2 b = 0) : key + 1 = wVv b key + 1 := by rw [b2_n0 h]; rfl
theorem wv_0 {b : Bool} {key : Int32} (h : b2 b = 0) : (0 : Int32) = wVv b key + 1 := by rw [b2_0.mp h]; show (0 : Int32) = (-1) + 1; decide
theorem aAns_n {sc : Nat → Int32} {M : Nat → Nat → Int32} {n : Nat} {J au name port key : Int32} : (aAns sc M n J au name port key).2 = nAv n (aDv J (sc 2) n) := by
  unfold aAns
  by_cases h1 : J = 1 ∨ J = 2
  · rw [if_pos h1]
    have e : aDv J (sc 2) n = false := by
      unfold aDv
      rw [decide_eq_false (fun z : J = 5 => by rw [z] at h1; exact h1.elim (fun w => absurd w (by decide)) (fun w => absurd w (by decide)))]; rfl
    rw [e]; rfl
  · rw [if_neg h1]
    by_cases h2 : J = 5 ∧ sc 2 = 0 ∧ n < 40
    · rw [if_pos h2]
      have e : aDv J (sc 2) n = true := by unfold aDv; rw [decide_eq_true h2.1, decide_eq_true h2.2.1, decide_eq_true h2.2.2]; rfl
      rw [e]; rfl
    · rw [if_neg h2]
      have e : aDv J (sc 2) n = false := Bool.eq_false_iff.mpr (fun z => h2 (aDv_t z))
      rw [e]; rfl
theorem aAns_19 {sc : Nat → Int32} {M : Nat → Nat → Int32} {n x : Nat} {J au name port key : Int32} : (aAns sc M n J au name port key).1 19 x = M 19 x := by
  unfold aAns
  split
  · show aSee _ _ M n 19 x = _
    rw [aSee_f (by decide)]
  · split
    · exact aTr_hi (by decide)
    · rfl
section HEx3
variable {S' : hS} {h cA bk ca sa : Nat} {f : Nat → Int32} {ad pa : Nat → Nat} {sc : Nat → Int32} {M : Nat → Nat → Int32} {n nc ns : Nat} {r name port key : Int32} {co : Option Nat}
theorem jc {day : Int32} (hJ : lJg day M n ns name port key co = jb day M name port key (-1) n ∨ ∃ c, co = some c ∧ (lJg day M n ns name port key co = 0 ∨ (lJg day M n ns name port key co = 1 ∧ ¬ jb day M name port key (-1) n = 0 ∧ M 19 c = key))) (h1 : ¬ lJg day M n ns name port key co = jb day M name port key (-1) n) (h0 : ¬ lJg day M n ns name port key co = 0) :
    ∃ c, co = some c ∧ lJg day M n ns name port key co = 1 ∧ ¬ jb day M name port key (-1) n = 0 ∧ M 19 c = key := by
  rcases hJ with z | ⟨c, e, z | z⟩
  · exact absurd z h1
  · exact absurd z h0
  · exact ⟨c, e, z⟩
theorem lI_ans {J au : Int32} (hI : lI sc M n) (h4 : sc 4 = nI n) (hN : okN name = true) (hK : okK key = true) : lI (scN (aW sc J name port key) (aAns sc M n J au name port key).2) (aAns sc M n J au name port key).1 (aAns sc M n J au name port key).2 := by
  have e1 : ∀ k, scN (aW sc J name port key) k 1 = sc 1 := fun k => by rw [scN_ne (by decide)]; unfold aW; exact aWait_ne (by decide)
  refine ⟨jI_ans hI.1 h4 hN hK, by rw [e1]; exact hI.2.1, ?_⟩
  rw [e1]
  unfold aAns
  split
  · intro i hi
    have hi : i < n := hi
    show lnI (sc 1) (aSee (seeB M (sc 1) key au name port) (sc 1) M n) i
    unfold lnI
    rw [aSee_f (f := 6) (by decide), aSee_f (f := 8) (by decide), aSee_at]
    refine ⟨(hI.2.2 i hi).1, ?_, (hI.2.2 i hi).2.2⟩
    split
    · exact ⟨hI.2.1.1, Int32.le_refl _⟩
    · exact (hI.2.2 i hi).2.1
  · split
    · have h2 := (lI_tr (name := name) (port := port) hI hK).2.2
      rw [scN_ne (by decide)] at h2
      exact h2
    · exact hI.2.2
theorem ex_ans (hB : r = lJg (sc 1) M n ns name port key co ∧ lB S' h cA (va_up (va_up f 1 (nI (nAv n (aDv (lJg (sc 1) M n ns name port key co) (sc 2) n)))) 6 (wVv (wDv (lJg (sc 1) M n ns name port key co) (sc 2)) key + 1)) bk ca sa ad pa (scN (aW sc (lJg (sc 1) M n ns name port key co) name port key) (aAns sc M n (lJg (sc 1) M n ns name port key co) (lAu M co) name port key).2) (aAns sc M n (lJg (sc 1) M n ns name port key co) (lAu M co) name port key).1 (aAns sc M n (lJg (sc 1) M n ns name port key co) (lAu M co) name port key).2 nc ns)
    (hI : lI sc M n) (hcI : cI f sc M n nc ns) (h4 : sc 4 = nI n) (hN : okN name = true) (hK : okK key = true) (hz : ∀ i, i < n → ∃ k, k ≤ 4 ∧ M 12 i = nI k) :
    ∃ (sc1 : Nat → Int32) (M1 : Nat → Nat → Int32) (n1 : Nat), r = lJg (sc 1) M n ns name port key co ∧ lB S' h cA (va_up (va_up f 1 (nI (nAv n (aDv (lJg (sc 1) M n ns name port key co) (sc 2) n)))) 6 (wVv (wDv (lJg (sc 1) M n ns name port key co) (sc 2)) key + 1)) bk ca sa ad pa sc1 M1 n1 nc ns ∧ lI sc1 M1 n1 ∧ cI (va_up (va_up f 1 (nI (nAv n (aDv (lJg (sc 1) M n ns name port key co) (sc 2) n)))) 6 (wVv (wDv (lJg (sc 1) M n ns name port key co) (sc 2)) key + 1)) sc1 M1 n1 nc ns ∧ n1 ≤ 40 ∧
      (aDv (lJg (sc 1) M n ns name port key co) (sc 2) n = true → n1 = n + 1 ∧ M1 5 n = key ∧ M1 6 n = 0 ∧ M1 7 n = sc1 1 ∧ M1 8 n = -1 ∧ mt M1 n name port = true ∧ jb (sc1 1) M1 name port key (-1) n1 = 2) ∧
      (lJg (sc 1) M n ns name port key co = 2 → ∀ j, j < n1 → 1000 * M1 6 j + M1 5 j = key → en (sc1 1) (M1 8 j) = false → mt M1 j name port = true → M1 7 j = sc1 1) := by
  have hJ := jcase (day := sc 1) (ns := ns) (name := name) (port := port) (key := key) (co := co) (jI_key hI.1)
  have hL := lI_ans (J := lJg (sc 1) M n ns name port key co) (au := lAu M co) (name := name) (port := port) hI h4 hN hK
  have h19 := fun x => aAns_19 (sc := sc) (M := M) (n := n) (x := x) (J := lJg (sc 1) M n ns name port key co) (au := lAu M co) (name := name) (port := port) (key := key)
  have hn2 := aAns_n (sc := sc) (M := M) (n := n) (J := lJg (sc 1) M n ns name port key co) (au := lAu M co) (name := name) (port := port) (key := key)
  have e1 : ∀ k, scN (aW sc (lJg (sc 1) M n ns name port key co) name port key) k 1 = sc 1 := fun k => by rw [scN_ne (by decide)]; unfold aW; exact aWait_ne (by decide)
  refine ⟨_, _, _, hB.1, hB.2, hL, ?_, lB_n hB.2, ?_, ?_⟩
  · obtain ⟨a0, a1, a2, a3, a4, a6, a⟩ := hcI
    refine ⟨?_, ?_, ?_, ?_, ?_, ?_, fun i hi => ?_⟩
    · rw [va_up_ne _ _ (by decide), va_up_ne _ _ (by decide), e1]; exact a0
    · rw [va_up_ne _ _ (by decide), va_up_self, hn2]
    · rw [va_up_ne _ _ (by decide), va_up_ne _ _ (by decide)]; exact a2
    · rw [va_up_ne _ _ (by decide), va_up_ne _ _ (by decide)]; exact a3
    · rw [va_up_ne _ _ (by decide), va_up_ne _ _ (by decide), scN_ne (by decide)]; unfold aW; rw [aWait_ne (by decide)]; exact a4
    · rw [va_up_self, scN_ne (by decide)]
      unfold aW aWait
      rw [va_up_ne _ _ (by decide), va_up_ne _ _ (by decide), va_up_self]
      unfold wVv
      by_cases hw : wDv (lJg (sc 1) M n ns name port key co) (sc 2) = true
      · rw [if_pos hw, if_pos (wDv_iff.mp hw)]
      · rw [if_neg hw, if_neg (fun z => hw (wDv_iff.mpr z))]
    · rw [va_up_ne _ _ (by omega), va_up_ne _ _ (by omega), h19]; exact a i hi
  · intro hA1
    obtain ⟨g5, g0, gn⟩ := aDv_t hA1
    have hp5 : jb (sc 1) M name port key (-1) n = 5 := by
      rcases hJ with z | ⟨c, -, z | z⟩
      · rw [← z]; exact g5
      · rw [g5] at z; exact absurd z (by decide)
      · rw [g5] at z; exact absurd z.1 (by decide)
    have eT : aAns sc M n (lJg (sc 1) M n ns name port key co) (lAu M co) name port key = (aTr sc M n name port key, n + 1) := by
      unfold aAns
      rw [g5, if_neg (by decide), if_pos ⟨rfl, g0, gn⟩]
    obtain ⟨e5, e6, e7, e8⟩ := aTr_at (sc := sc) (M := M) (n := n) (name := name) (port := port) (key := key)
    have hmt := aTr_mt (sc := sc) (M := M) (n := n) (name := name) (port := port) (key := key) hN hK
    rw [e1, eT]
    refine ⟨rfl, e5, e6, e7, e8, hmt, ?_⟩
    show jb (sc 1) (aTr sc M n name port key) name port key (-1) (n + 1) = 2
    refine jb_2 (Nat.lt_succ_self n) hmt (jm_to2 e6 (by rw [e8]; rfl) e5) (fun j hj hm z => ?_)
    by_cases hjn : j = n
    · rw [hjn, jm_to2 e6 (by rw [e8]; rfl) e5] at z; exact absurd z (by decide)
    · have hjl : j < n := by omega
      rw [jm_at (aTr_ne (by decide) hjn) (aTr_ne (by decide) hjn) (aTr_ne (by decide) hjn)] at z
      rw [mt_at (M := M) (i := j) (fun f _ h2 => aTr_ne h2 hjn) (fun f k h1 _ hk => aTr_ne4 h1 hjn hk) (sz_le hz hjl)] at hm
      exact jb_n0 (by rw [hp5]; decide) hjl hm z
  · intro g2
    have eT : aAns sc M n (lJg (sc 1) M n ns name port key co) (lAu M co) name port key = (aSee (seeB M (sc 1) key (lAu M co) name port) (sc 1) M n, n) := by
      unfold aAns
      rw [g2, if_pos (Or.inr rfl)]
    rw [e1, eT]
    intro j hj hko hen hm
    have hj : j < n := hj
    have hm : mt (aSee (seeB M (sc 1) key (lAu M co) name port) (sc 1) M n) j name port = true := hm
    have hko : 1000 * aSee (seeB M (sc 1) key (lAu M co) name port) (sc 1) M n 6 j + aSee (seeB M (sc 1) key (lAu M co) name port) (sc 1) M n 5 j = key := hko
    have hen : en (sc 1) (aSee (seeB M (sc 1) key (lAu M co) name port) (sc 1) M n 8 j) = false := hen
    show aSee (seeB M (sc 1) key (lAu M co) name port) (sc 1) M n 7 j = sc 1
    rw [aSee_f (by decide), aSee_f (by decide)] at hko
    rw [aSee_f (by decide)] at hen
    rw [aSee_mt] at hm
    obtain ⟨k1, k2⟩ := (ko_eq (hI.2.2 j hj).1 (hI.1.1 j hj) hK).mp hko
    have hs : seeB M (sc 1) key (lAu M co) name port j = true := by
      unfold seeB
      rw [k1, hen, decide_eq_true k2, hm]
      rfl
    rw [aSee_at, if_pos ⟨rfl, hj, hs⟩]
end HEx3
