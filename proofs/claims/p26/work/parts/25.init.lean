/-! A NEW BOOK -/
theorem clF_uR (S : hS) {k : Nat} (a : Nat) (v : Option Nat) (hk : k < 60) : clF S (uR S k a v) :=
  ⟨fun _ _ h => h, fun x b hx _ => ⟨rfl, by rw [sR_uR, if_neg (fun z => by omega)]⟩, fun _ _ => ⟨rfl, rfl⟩⟩
theorem clF_nA {S : hS} {k q n : Nat} (hq : q ∉ sL S) : clF S (nA S k q n) :=
  ⟨fun _ _ h => isO_nA' h hq, fun x b _ _ => ⟨rfl, rfl⟩, fun a ha => ⟨by rw [sN_nA, if_neg (ne_of_mem ha hq)], by funext j; rw [sA_nA, if_neg (ne_of_mem ha hq)]⟩⟩
def inA (S : hS) (x h b k N : Nat) : Prop := sR S x h = some b ∧ isO S b k ∧ sN S b = N
theorem inA_nA {S : hS} {x h b k N k' q n : Nat} (h0 : inA S x h b k N) (hq : q ∉ sL S) : inA (nA S k' q n) x h b k N := ⟨h0.1, isO_nA' h0.2.1 hq, by rw [sN_nA, if_neg (ne_of_mem h0.2.1.1 hq)]; exact h0.2.2⟩
theorem inA_uR {S : hS} {x h b k N x' a : Nat} {v : Option Nat} (h0 : inA S x h b k N) (hx : ¬ (x = x' ∧ h = a)) : inA (uR S x' a v) x h b k N := ⟨by rw [sR_uR, if_neg hx]; exact h0.1, h0.2.1, h0.2.2⟩
theorem inA_uF {S : hS} {x h b k N x' a : Nat} {v : Int32} (h0 : inA S x h b k N) : inA (uF S x' a v) x h b k N := h0
theorem inA_uB {S : hS} {x h b k N j a : Nat} {v : Option Nat} (h0 : inA S x h b k N) : inA (uB S a j v) x h b k N := h0
theorem inA_nO {S : hS} {x h b k N k' q : Nat} (h0 : inA S x h b k N) (hh : h ∈ sL S) (hq : q ∉ sL S) : inA (nO S k' q) x h b k N := ⟨by rw [sR_nO, if_neg (ne_of_mem hh hq)]; exact h0.1, isO_nO' h0.2.1 hq, h0.2.2⟩
theorem inA_new {S : hS} {x h k q n : Nat} : inA (uR (nA S k q n) x h (some q)) x h q k n := ⟨by rw [sR_uR, if_pos ⟨rfl, rfl⟩], isO_nA S k q n, sN_nA_self S k q n⟩
def inI (S S1 : hS) (h bk ca sa : Nat) (ad pa : Nat → Nat) (j : Nat) : Prop :=
  clF S S1 ∧ isO S1 h 4 ∧ inA S1 40 h bk 9 40 ∧ inA S1 42 h ca 8 20 ∧ inA S1 44 h sa 11 20 ∧ (∀ i, i < j → sB S1 bk i = some (ad i) ∧ lnG S1 (ad i) (pa (ad i))) ∧ (∀ i k, i < j → k < j → ad i = ad k → i = k) ∧ (∀ i k, i < j → k < j → pa (ad i) = pa (ad k) → i = k) ∧ ∀ x, sF S1 x h = if x = 51 then -1 else if x = 47 then 1 else sF S x h
theorem sF_uR' (S : hS) (k a : Nat) (v : Option Nat) (x b : Nat) : sF (uR S k a v) x b = sF S x b := Eq.trans rfl (congrFun (congrFun (sF_uR S k a v) x) b)
theorem sF_nA' (S : hS) (k q n x b : Nat) : sF (nA S k q n) x b = sF S x b := Eq.trans rfl (congrFun (congrFun (sF_nA S k q n) x) b)
theorem inI_0 {S : hS} {h q1 q2 q3 : Nat} (hO : isO S h 4) (h1 : q1 ∉ sL S) (h2 : q2 ∉ sL (uR (nA S 9 q1 40) 40 h (some q1))) (h3 : q3 ∉ sL (uR (nA (uR (nA S 9 q1 40) 40 h (some q1)) 8 q2 20) 42 h (some q2))) :
    inI S (uF (uF (uR (nA (uR (nA (uR (nA S 9 q1 40) 40 h (some q1)) 8 q2 20) 42 h (some q2)) 11 q3 20) 44 h (some q3)) 47 h 1) 51 h (-1)) h q1 q2 q3 (fun _ => 0) (fun _ => 0) 0 := by
  refine ⟨?_, ?_, ?_, ?_, ?_, fun i hi => absurd hi (Nat.not_lt_zero i), fun i k hi _ _ => absurd hi (Nat.not_lt_zero i), fun i k hi _ _ => absurd hi (Nat.not_lt_zero i), fun x => ?_⟩
  · exact ((((((((clF_nA h1).trans (clF_uR _ _ _ (by decide))).trans (clF_nA h2)).trans (clF_uR _ _ _ (by decide))).trans (clF_nA h3)).trans (clF_uR _ _ _ (by decide))).trans (clF_uF _ _ _ (by decide))).trans (clF_uF _ _ _ (by decide)))
  · exact o_uF (o_uF (o_uR (isO_nA' (o_uR (isO_nA' (o_uR (isO_nA' hO h1)) h2)) h3)))
  · exact inA_uF (inA_uF (inA_uR (inA_nA (inA_uR (inA_nA inA_new h2) (by omega)) h3) (by omega)))
  · exact inA_uF (inA_uF (inA_uR (inA_nA inA_new h3) (by omega)))
  · exact inA_uF (inA_uF inA_new)
  · simp only [tF_uF, sF_uR', sF_nA']
    simp
theorem lnG_nO {S : hS} {a pa k q : Nat} (h : lnG S a pa) (hq : q ∉ sL S) : lnG (nO S k q) a pa := ⟨isO_nO' h.1 hq, by rw [sR_nO, if_neg (ne_of_mem h.1.1 hq)]; exact h.2.1, isO_nO' h.2.2.1 hq, h.2.2.2⟩
theorem lnG_nA {S : hS} {a pa k q n : Nat} (h : lnG S a pa) (hq : q ∉ sL S) : lnG (nA S k q n) a pa := ⟨isO_nA' h.1 hq, h.2.1, isO_nA' h.2.2.1 hq, by rw [sN_nA, if_neg (ne_of_mem h.2.2.1.1 hq)]; exact h.2.2.2⟩
theorem inI_s {S S1 : hS} {h bk ca sa j q qa : Nat} {ad pa : Nat → Nat} (h0 : inI S S1 h bk ca sa ad pa j) (hq : q ∉ sL S1) (hqa : qa ∉ sL (nO S1 1 q)) :
    inI S (uB (uR (nA (nO S1 1 q) 10 qa 4) 14 q (some qa)) bk j (some q)) h bk ca sa (va_up ad j q) (va_up pa q qa) (j + 1) := by
  obtain ⟨a1, a2, a3, a4, a5, a6, a7, a8, a9⟩ := h0
  have hm : ∀ {z}, z ∈ sL S1 → z ∈ sL (nO S1 1 q) := fun hz => by rw [sL_nO]; exact List.mem_append_left _ hz
  have hqn : q ∈ sL (nO S1 1 q) := (isO_nO S1 1 q).1
  have hmem : ∀ {z}, z ∈ sL S1 → z ≠ q ∧ z ≠ qa := fun hz => ⟨ne_of_mem hz hq, ne_of_mem (hm hz) hqa⟩
  have hqq : q ≠ qa := ne_of_mem hqn hqa
  have adn : ∀ i, i < j → ad i ≠ q := fun i hi => (hmem (a6 i hi).2.1.1).1
  have pan : ∀ i, i < j → pa (ad i) ≠ qa := fun i hi => (hmem (a6 i hi).2.2.2.1.1).2
  have e1 : ∀ i, i < j → va_up ad j q i = ad i := fun i hi => va_up_ne _ _ (by omega)
  have e2 : ∀ i, i < j → va_up pa q qa (ad i) = pa (ad i) := fun i hi => va_up_ne _ _ (adn i hi)
  have ej : va_up ad j q j = q := va_up_self _ _ _
  have eq' : va_up pa q qa q = qa := va_up_self _ _ _
  have hcl : clF S1 (uB (uR (nA (nO S1 1 q) 10 qa 4) 14 q (some qa)) bk j (some q)) := (((clF_nO hq).trans (clF_nA hqa)).trans (clF_uR _ _ _ (by decide))).trans (clF_uB _ _ _ _)
  have hA : ∀ {x b k N}, x ≠ 14 → inA S1 x h b k N → inA (uB (uR (nA (nO S1 1 q) 10 qa 4) 14 q (some qa)) bk j (some q)) x h b k N := fun hx h0 => inA_uB (inA_uR (inA_nA (inA_nO h0 a2.1 hq) hqa) (by omega))
  refine ⟨a1.trans hcl, hcl.1 _ _ a2, hA (by decide) a3, hA (by decide) a4, hA (by decide) a5, fun i hi => ?_, fun i k hi hk he => ?_, fun i k hi hk he => ?_, fun x => ?_⟩
  · by_cases hij : i = j
    · subst hij
      rw [ej, eq']
      refine ⟨by rw [sB_uB, if_pos ⟨rfl, rfl⟩], o_uB (o_uR (isO_nA' (isO_nO S1 1 q) hqa)), ?_, o_uB (o_uR (isO_nA _ _ _ _)), ?_⟩
      · rw [sR_uB, sR_uR, if_pos ⟨rfl, rfl⟩]
      · rw [sN_uB, sN_uR]; exact sN_nA_self _ _ _ _
    · have hi' : i < j := by omega
      rw [e1 i hi', e2 i hi']
      obtain ⟨g1, g2⟩ := a6 i hi'
      refine ⟨?_, ?_⟩
      · rw [sB_uB, if_neg (fun z => hij z.2), sB_uR, sB_nA, if_neg (hmem a3.2.1.1).2, sB_nO]; exact g1
      · have g3 := lnG_nA (k := 10) (n := 4) (lnG_nO (k := 1) g2 hq) hqa
        exact ⟨o_uB (o_uR g3.1), by rw [sR_uB, sR_uR, if_neg (fun z => adn i hi' z.2)]; exact g3.2.1, o_uB (o_uR g3.2.2.1), by rw [sN_uB, sN_uR]; exact g3.2.2.2⟩
  · by_cases hij : i = j <;> by_cases hkj : k = j
    · omega
    · subst hij; rw [ej, e1 k (by omega)] at he; exact absurd he.symm (adn k (by omega))
    · subst hkj; rw [ej, e1 i (by omega)] at he; exact absurd he (adn i (by omega))
    · rw [e1 i (by omega), e1 k (by omega)] at he; exact a7 i k (by omega) (by omega) he
  · by_cases hij : i = j <;> by_cases hkj : k = j
    · omega
    · subst hij; rw [ej, eq', e1 k (by omega), e2 k (by omega)] at he; exact absurd he.symm (pan k (by omega))
    · subst hkj; rw [ej, eq', e1 i (by omega), e2 i (by omega)] at he; exact absurd he (pan i (by omega))
    · rw [e1 i (by omega), e2 i (by omega), e1 k (by omega), e2 k (by omega)] at he; exact a8 i k (by omega) (by omega) he
  · rw [sF_uB, sF_uR', sF_nA', sF_nO, if_neg (hmem a2.1).1]
    exact a9 x
/-- the state of a new book -/
def sc0 : Nat → Int32 := fun x => if x = 2 then 1 else if x = 29 then -1 else 0
def M0 : Nat → Nat → Int32 := fun _ _ => 0
theorem inI_e {S S1 : hS} {h bk ca sa : Nat} {ad pa : Nat → Nat} (h0 : inI S S1 h bk ca sa ad pa 40) (hz : ∀ x, sF S x h = 0) : cP S S1 h bk ca sa ad pa sc0 M0 0 0 0 := by
  obtain ⟨a1, a2, a3, a4, a5, a6, a7, a8, a9⟩ := h0
  have z : ∀ x, x ≠ 51 → x ≠ 47 → sF S1 x h = 0 := fun x h1 h2 => by rw [a9, if_neg h1, if_neg h2, hz]
  refine ⟨⟨a2, a3, a4, a5, a6, a7, a8⟩, ⟨⟨z 41 (by decide) (by decide), rfl, by decide⟩, fun i hi => absurd hi (Nat.not_lt_zero i), ⟨z 43 (by decide) (by decide), rfl, by decide⟩, ⟨z 45 (by decide) (by decide), rfl, by decide⟩, ⟨z 46 (by decide) (by decide), ?_, z 48 (by decide) (by decide), Or.inl rfl⟩, ⟨?_, fun w => absurd rfl w⟩, fun i hi => absurd hi (Nat.not_lt_zero i), fun i hi => absurd hi (Nat.not_lt_zero i)⟩, a1⟩
  · rw [a9, if_neg (by decide), if_pos rfl]; rfl
  · rw [a9, if_pos rfl]; rfl

