theorem isO_eq {S S' : hS} {a k : Nat} (hL : sL S' = sL S) (hK : sK S' = sK S) (h : isO S a k) : isO S' a k := ⟨by rw [hL]; exact h.1, by rw [hK]; exact h.2⟩
/-! a line becomes like another one -/
def mchR (S S' : hS) (a pa b pb n : Nat) : Prop := (sL S' = sL S ∧ sK S' = sK S ∧ sR S' = sR S ∧ sN S' = sN S ∧ sA S' = sA S) ∧ (∀ x c, ¬ (15 ≤ x ∧ x < 20 ∧ c = a) → sF S' x c = sF S x c) ∧ (∀ x, 15 ≤ x → x < 20 → sF S' x a = sF S x b) ∧ (∀ c, c ≠ pa → sB S' c = sB S c) ∧ (∀ j, j < n → sB S' pa j = sB S pb j)
def mch0 (S S' : hS) (a pa pb n j : Nat) : Prop := (sL S' = sL S ∧ sK S' = sK S ∧ sR S' = sR S ∧ sN S' = sN S ∧ sA S' = sA S) ∧ (∀ x c, sF S' x c = if x = 15 ∧ c = a then nI n else sF S x c) ∧ (∀ c, c ≠ pa → sB S' c = sB S c) ∧ (∀ k, k < j → sB S' pa k = sB S pb k)
def cpF (S : hS) (x a b : Nat) : hS := uF S x a (sF S x b)
theorem tF_cpF (S : hS) (x a b y c : Nat) : sF (cpF S x a b) y c = if y = x ∧ c = a then sF S x b else sF S y c := Eq.trans rfl (sF_uF _ _ _ _ _ _)
theorem cpF_same (S : hS) (x a b : Nat) : sL (cpF S x a b) = sL S ∧ sK (cpF S x a b) = sK S ∧ sR (cpF S x a b) = sR S ∧ sN (cpF S x a b) = sN S ∧ sA (cpF S x a b) = sA S ∧ sB (cpF S x a b) = sB S := ⟨rfl, rfl, rfl, rfl, rfl, rfl⟩
theorem mch0_0 (S : hS) (a pa pb n : Nat) : mch0 S (uF S 15 a (nI n)) a pa pb n 0 := ⟨⟨rfl, rfl, rfl, rfl, rfl⟩, fun x c => sF_uF _ _ _ _ _ _, fun _ _ => rfl, fun k hk => absurd hk (Nat.not_lt_zero k)⟩
theorem mch0_s {S S1 : hS} {a pa pb n j v : Nat} (h : mch0 S S1 a pa pb n j) (hv : sB S pb j = some v) : mch0 S (uB S1 pa j (some v)) a pa pb n (j + 1) := by
  obtain ⟨⟨h1, h2, h3, h4, h5⟩, h6, h7, h8⟩ := h
  refine ⟨⟨by rw [sL_uB]; exact h1, by rw [sK_uB]; exact h2, by rw [sR_uB]; exact h3, by rw [sN_uB]; exact h4, by rw [sA_uB]; exact h5⟩, fun x c => by rw [sF_uB]; exact h6 x c, fun c hc => ?_, fun k hk => ?_⟩
  · funext z
    rw [sB_uB, if_neg (fun w => hc w.1), h7 c hc]
  · rw [sB_uB]
    by_cases hkj : k = j
    · rw [if_pos ⟨rfl, hkj⟩, hkj, hv]
    · rw [if_neg (fun w => hkj w.2)]
      exact h8 k (by omega)
theorem mch0_e {S S1 : hS} {a pa b pb n : Nat} (h : mch0 S S1 a pa pb n n) (hab : a ≠ b) (h15 : sF S 15 b = nI n) : mchR S (cpF (cpF (cpF (cpF S1 16 a b) 17 a b) 18 a b) 19 a b) a pa b pb n := by
  obtain ⟨⟨h1, h2, h3, h4, h5⟩, h6, h7, h8⟩ := h
  have hba : ¬ b = a := fun z => hab z.symm
  have g : ∀ x c, sF (cpF (cpF (cpF (cpF S1 16 a b) 17 a b) 18 a b) 19 a b) x c = if x = 19 ∧ c = a then sF S 19 b else if x = 18 ∧ c = a then sF S 18 b else if x = 17 ∧ c = a then sF S 17 b else if x = 16 ∧ c = a then sF S 16 b else if x = 15 ∧ c = a then nI n else sF S x c := by
    intro x c
    simp only [tF_cpF, h6, hba, and_false, if_false]
  refine ⟨⟨?_, ?_, ?_, ?_, ?_⟩, fun x c hx => ?_, fun x hx1 hx2 => ?_, fun c hc => ?_, fun j hj => ?_⟩
  · rw [(cpF_same _ _ _ _).1, (cpF_same _ _ _ _).1, (cpF_same _ _ _ _).1, (cpF_same _ _ _ _).1]; exact h1
  · rw [(cpF_same _ _ _ _).2.1, (cpF_same _ _ _ _).2.1, (cpF_same _ _ _ _).2.1, (cpF_same _ _ _ _).2.1]; exact h2
  · rw [(cpF_same _ _ _ _).2.2.1, (cpF_same _ _ _ _).2.2.1, (cpF_same _ _ _ _).2.2.1, (cpF_same _ _ _ _).2.2.1]; exact h3
  · rw [(cpF_same _ _ _ _).2.2.2.1, (cpF_same _ _ _ _).2.2.2.1, (cpF_same _ _ _ _).2.2.2.1, (cpF_same _ _ _ _).2.2.2.1]; exact h4
  · rw [(cpF_same _ _ _ _).2.2.2.2.1, (cpF_same _ _ _ _).2.2.2.2.1, (cpF_same _ _ _ _).2.2.2.2.1, (cpF_same _ _ _ _).2.2.2.2.1]; exact h5
  · rw [g, if_neg (by omega), if_neg (by omega), if_neg (by omega), if_neg (by omega), if_neg (by omega)]
  · rw [g]
    have hc : x = 15 ∨ x = 16 ∨ x = 17 ∨ x = 18 ∨ x = 19 := by omega
    rcases hc with rfl | rfl | rfl | rfl | rfl <;> simp [h15]
  · rw [(cpF_same _ _ _ _).2.2.2.2.2, (cpF_same _ _ _ _).2.2.2.2.2, (cpF_same _ _ _ _).2.2.2.2.2, (cpF_same _ _ _ _).2.2.2.2.2]; exact h7 c hc
  · rw [(cpF_same _ _ _ _).2.2.2.2.2, (cpF_same _ _ _ _).2.2.2.2.2, (cpF_same _ _ _ _).2.2.2.2.2, (cpF_same _ _ _ _).2.2.2.2.2]; exact h8 j hj
def aLike (M : Nat → Nat → Int32) (i j : Nat) : Nat → Nat → Int32 := fun f x => if 9 ≤ f ∧ f ≤ 12 ∧ x = i then M f j else if 13 ≤ f ∧ f ≤ 16 ∧ x / 4 = i then M f (4 * j + x % 4) else M f x
theorem lnR_to {S S' : hS} {a pa i i' k : Nat} {pt : Nat → Nat} {M M' : Nat → Nat → Int32} (h : lnR S a pa pt M i k) (hF : ∀ x, 10 ≤ x → x < 20 → sF S' x a = sF S x a) (hP : ∀ q, isO S q 2 → isO S' q 2 ∧ ∀ x, 20 ≤ x → x < 24 → sF S' x q = sF S x q) (hB : ∀ j, j < 4 → sB S' pa j = sB S pa j)
    (hM : ∀ f, 5 ≤ f → f ≤ 12 → M' f i' = M f i) (hM4 : ∀ f j, 13 ≤ f → f ≤ 16 → j < 4 → M' f (4 * i' + j) = M f (4 * i + j)) : lnR S' a pa pt M' i' k := by
  obtain ⟨⟨q1, q2, q3, q4⟩, ⟨r1, r2, r3⟩, u, v⟩ := h
  refine ⟨⟨?_, ?_, ?_, ?_⟩, ⟨?_, ?_, r3⟩, ?_, fun j hj => ?_⟩
  · rw [hF 10 (by decide) (by decide), hM 6 (by decide) (by decide)]; exact q1
  · rw [hF 11 (by decide) (by decide), hM 5 (by decide) (by decide)]; exact q2
  · rw [hF 12 (by decide) (by decide), hM 7 (by decide) (by decide)]; exact q3
  · rw [hF 13 (by decide) (by decide), hM 8 (by decide) (by decide)]; exact q4
  · rw [hF 15 (by decide) (by decide)]; exact r1
  · rw [hM 12 (by decide) (by decide)]; exact r2
  · rw [hF 16 (by decide) (by decide), hF 17 (by decide) (by decide), hF 18 (by decide) (by decide), hF 19 (by decide) (by decide), hM 9 (by decide) (by decide), hM 10 (by decide) (by decide), hM 11 (by decide) (by decide)]
    exact u
  · obtain ⟨v1, v2, v3, v4, v5, v6⟩ := v j hj
    obtain ⟨p1, p2⟩ := hP _ v2
    have hj4 : j < 4 := by omega
    refine ⟨by rw [hB j hj4]; exact v1, p1, ?_, ?_, ?_, ?_⟩
    · rw [p2 20 (by decide) (by decide), hM4 13 j (by decide) (by decide) hj4]; exact v3
    · rw [p2 21 (by decide) (by decide), hM4 14 j (by decide) (by decide) hj4]; exact v4
    · rw [p2 22 (by decide) (by decide), hM4 15 j (by decide) (by decide) hj4]; exact v5
    · rw [p2 23 (by decide) (by decide), hM4 16 j (by decide) (by decide) hj4]; exact v6
/-! the pool's shape is as it was: only numbers and rows moved -/
def shp (S S' : hS) : Prop := sL S' = sL S ∧ sK S' = sK S ∧ sR S' = sR S ∧ sN S' = sN S ∧ sA S' = sA S
theorem shp_o {S S' : hS} (h : shp S S') : ∀ a k, isO S a k → isO S' a k := fun _ _ ho => isO_eq h.1 h.2.1 ho
theorem shp_clF {S S' : hS} (h : shp S S') (hF : ∀ x a, 60 ≤ x → sF S' x a = sF S x a) : clF S S' := ⟨shp_o h, fun x a hx _ => ⟨hF x a hx, by rw [h.2.2.1]⟩, fun a _ => ⟨by rw [h.2.2.2.1], by rw [h.2.2.2.2]⟩⟩
theorem shp_lnG {S S' : hS} (h : shp S S') {a pa : Nat} (hg : lnG S a pa) : lnG S' a pa := ⟨shp_o h _ _ hg.1, by rw [h.2.2.1]; exact hg.2.1, shp_o h _ _ hg.2.2.1, by rw [h.2.2.2.1]; exact hg.2.2.2⟩
theorem shp_cG {S S' : hS} (h : shp S S') {h0 bk ca sa : Nat} {ad ad' pa : Nat → Nat} (hG : cG S h0 bk ca sa ad pa) (hB : ∀ i, i < 40 → ∃ j, j < 40 ∧ ad' i = ad j ∧ sB S' bk i = some (ad j)) (hi : ∀ i j, i < 40 → j < 40 → ad' i = ad' j → i = j) : cG S' h0 bk ca sa ad' pa := by
  obtain ⟨h1, ⟨h2, h3, h4⟩, ⟨h5, h6, h7⟩, ⟨h8, h9, h10⟩, h11, h12, h13⟩ := hG
  refine ⟨shp_o h _ _ h1, ⟨by rw [h.2.2.1]; exact h2, shp_o h _ _ h3, by rw [h.2.2.2.1]; exact h4⟩, ⟨by rw [h.2.2.1]; exact h5, shp_o h _ _ h6, by rw [h.2.2.2.1]; exact h7⟩, ⟨by rw [h.2.2.1]; exact h8, shp_o h _ _ h9, by rw [h.2.2.2.1]; exact h10⟩, fun i hi9 => ?_, hi, fun i j hi9 hj9 he => ?_⟩
  · obtain ⟨j, hj, e1, e2⟩ := hB i hi9
    exact ⟨by rw [e1]; exact e2, by rw [e1]; exact shp_lnG h (h11 j hj).2⟩
  · obtain ⟨i', hi', e1, -⟩ := hB i hi9
    obtain ⟨j', hj', e3, -⟩ := hB j hj9
    have := h13 i' j' hi' hj' (by rw [← e1, ← e3]; exact he)
    subst this
    exact hi i j hi9 hj9 (by rw [e1, e3])
theorem shp_cG1 {S S' : hS} (h : shp S S') {h0 bk ca sa : Nat} {ad pa : Nat → Nat} (hG : cG S h0 bk ca sa ad pa) (hB : ∀ i, i < 40 → sB S' bk i = sB S bk i) : cG S' h0 bk ca sa ad pa :=
  shp_cG h hG (fun i hi => ⟨i, hi, rfl, by rw [hB i hi]; exact (hG.2.2.2.2.1 i hi).1⟩) hG.2.2.2.2.2.1
theorem aLike_lo {M : Nat → Nat → Int32} {i j f x : Nat} (h : f < 9 ∨ 16 < f) : aLike M i j f x = M f x := by
  unfold aLike
  rw [if_neg (by omega), if_neg (by omega)]
theorem aLike_ne {M : Nat → Nat → Int32} {i j f x : Nat} (h : f ≤ 12) (hx : x ≠ i) : aLike M i j f x = M f x := by
  unfold aLike
  rw [if_neg (by omega), if_neg (by omega)]
theorem aLike_ne4 {M : Nat → Nat → Int32} {i j f x k : Nat} (h : 13 ≤ f) (hx : x ≠ i) (hk : k < 4) : aLike M i j f (4 * x + k) = M f (4 * x + k) := by
  unfold aLike
  rw [if_neg (by omega), if_neg (by omega)]
theorem aLike_eq {M : Nat → Nat → Int32} {i j f : Nat} (h : 9 ≤ f) (h2 : f ≤ 12) : aLike M i j f i = M f j := by
  unfold aLike
  rw [if_pos ⟨h, h2, rfl⟩]
theorem aLike_eq4 {M : Nat → Nat → Int32} {i j f k : Nat} (h : 13 ≤ f) (h2 : f ≤ 16) (hk : k < 4) : aLike M i j f (4 * i + k) = M f (4 * j + k) := by
  unfold aLike
  rw [if_neg (by omega), if_pos ⟨h, h2, by omega⟩, show (4 * i + k) % 4 = k by omega]
theorem cC_like {S S' : hS} {h bk ca sa : Nat} {ad pa : Nat → Nat} {sc : Nat → Int32} {M : Nat → Nat → Int32} {n nc ns i j k : Nat} {pt : Nat → Nat} (hG : cG S h bk ca sa ad pa) (hC : cC S h ca sa ad pa sc M n nc ns) (hi : i < n) (hij : i ≠ j) (hj : j < n) (hL : lnR S (ad j) (pa (ad j)) pt M j k)
    (hm : mchR S S' (ad i) (pa (ad i)) (ad j) (pa (ad j)) k) : cP S S' h bk ca sa ad pa sc (aLike M i j) n nc ns := by
  obtain ⟨hs, hF, hF2, hB, hB2⟩ := hm
  have hs : shp S S' := hs
  have hn := hC.1.2.2
  have hi40 : i < 40 := by omega
  have hpi := (hG.2.2.2.2.1 i hi40).2.2.2.1
  have off : ∀ {z t}, isO S z t → t ≠ 10 → z ≠ pa (ad i) := fun hz ht w => ht (by rw [← hz.2, w]; exact hpi.2)
  have hcl : clF S S' := shp_clF hs (fun x a hx => hF x a (by omega))
  have hh : ∀ x, 40 ≤ x → sF S' x h = sF S x h := fun x hx => hF x h (by omega)
  refine ⟨shp_cG1 hs hG (fun t _ => by rw [hB bk (off hG.2.1.2.1 (by decide))]), ⟨⟨by rw [hh 41 (by decide)]; exact hC.1.1, hC.1.2.1, hn⟩, ?_, ?_⟩, hcl⟩
  · refine cL_to i hC.2.1 (fun t h1 h2 => h1) (fun t h1 h2 x h3 h4 => hF x _ (fun z => h2 (hG.2.2.2.2.2.1 t i (by omega) hi40 z.2.2))) (fun a ha => ⟨shp_o hs _ _ ha, fun x h3 h4 => hF x a (by omega)⟩) (fun t h1 h2 m hm => ?_) (fun t ht => ⟨fun f h5 h6 => aLike_ne (by omega) ht, fun f m h5 h6 h7 => aLike_ne4 h5 ht h7⟩) (fun _ => ⟨pt, k, ?_⟩)
    · rw [hB _ (fun z => h2 (hG.2.2.2.2.2.2 t i (by omega) hi40 z))]
    · obtain ⟨pt0, k0, ⟨⟨q1, q2, q3, q4⟩, -⟩⟩ := hC.2.1 i hi
      obtain ⟨-, ⟨r1, r2, r3⟩, u, v⟩ := hL
      refine ⟨⟨?_, ?_, ?_, ?_⟩, ⟨?_, ?_, r3⟩, ?_, fun m hm => ?_⟩
      · rw [hF 10 _ (by omega), aLike_lo (by omega)]; exact q1
      · rw [hF 11 _ (by omega), aLike_lo (by omega)]; exact q2
      · rw [hF 12 _ (by omega), aLike_lo (by omega)]; exact q3
      · rw [hF 13 _ (by omega), aLike_lo (by omega)]; exact q4
      · rw [hF2 15 (by decide) (by decide)]; exact r1
      · rw [aLike_eq (by decide) (by decide)]; exact r2
      · rw [hF2 16 (by decide) (by decide), hF2 17 (by decide) (by decide), hF2 18 (by decide) (by decide), hF2 19 (by decide) (by decide), aLike_eq (by decide) (by decide), aLike_eq (by decide) (by decide), aLike_eq (by decide) (by decide)]
        exact u
      · obtain ⟨v1, v2, v3, v4, v5, v6⟩ := v m hm
        have hm4 : m < 4 := by omega
        refine ⟨by rw [hB2 m hm]; exact v1, shp_o hs _ _ v2, ?_, ?_, ?_, ?_⟩
        · rw [hF 20 _ (by omega), aLike_eq4 (by decide) (by decide) hm4]; exact v3
        · rw [hF 21 _ (by omega), aLike_eq4 (by decide) (by decide) hm4]; exact v4
        · rw [hF 22 _ (by omega), aLike_eq4 (by decide) (by decide) hm4]; exact v5
        · rw [hF 23 _ (by omega), aLike_eq4 (by decide) (by decide) hm4]; exact v6
  · exact cX_to hC.2.2 (shp_o hs) (fun x a h3 _ => hF x a (by omega)) (fun x h3 h4 => hh x (by omega)) (fun t _ => by rw [hB ca (off hG.2.2.1.2.1 (by decide))]) (fun t _ => by rw [hB sa (off hG.2.2.2.1.2.1 (by decide))]) (fun x _ => rfl) (fun f t hf => aLike_lo (by omega))
/-- a line's day seen, its end -/
theorem cC_fld {S : hS} {h bk ca sa : Nat} {ad pa : Nat → Nat} {sc : Nat → Int32} {M : Nat → Nat → Int32} {n nc ns j x f : Nat} {d : Int32} (hG : cG S h bk ca sa ad pa) (hC : cC S h ca sa ad pa sc M n nc ns) (hj : j < n) (hx : (x = 12 ∧ f = 7) ∨ (x = 13 ∧ f = 8)) : cP S (uF S x (ad j) d) h bk ca sa ad pa sc (u2 M f j d) n nc ns := by
  have hn := hC.1.2.2
  have hcl : clF S (uF S x (ad j) d) := clF_uF _ _ _ (by omega)
  have hF : ∀ y c, (y ≠ x ∨ c ≠ ad j) → sF (uF S x (ad j) d) y c = sF S y c := fun y c hyc => by rw [sF_uF, if_neg (by omega)]
  refine ⟨cG_uF _ _ _ hG, ⟨⟨by rw [hF 41 h (by omega)]; exact hC.1.1, hC.1.2.1, hn⟩, ?_, ?_⟩, hcl⟩
  · refine cL_to j hC.2.1 (fun t h1 h2 => h1) (fun t h1 h2 y h3 h4 => hF y _ (Or.inr (fun z => h2 (hG.2.2.2.2.2.1 t j (by omega) (by omega) z)))) (fun a ha => ⟨hcl.1 a 2 ha, fun y h3 h4 => hF y a (by omega)⟩) (fun t h1 h2 m hm => by rw [sB_uF]) (fun t ht => ⟨fun g h5 h6 => u2_ne2 ht, fun g m h5 h6 h7 => u2_ne1 (by omega)⟩) (fun _ => ?_)
    obtain ⟨pt, k, ⟨q1, q2, q3, q4⟩, ⟨r1, r2, r3⟩, u, v⟩ := hC.2.1 j hj
    refine ⟨pt, k, ⟨?_, ?_, ?_, ?_⟩, ⟨?_, ?_, r3⟩, ?_, fun m hm => ?_⟩
    · rw [hF 10 _ (by omega), u2_ne1 (by omega)]; exact q1
    · rw [hF 11 _ (by omega), u2_ne1 (by omega)]; exact q2
    · rcases hx with ⟨rfl, rfl⟩ | ⟨rfl, rfl⟩
      · rw [sF_uF, if_pos ⟨rfl, rfl⟩, u2_eq]
      · rw [hF 12 _ (by omega), u2_ne1 (by omega)]; exact q3
    · rcases hx with ⟨rfl, rfl⟩ | ⟨rfl, rfl⟩
      · rw [hF 13 _ (by omega), u2_ne1 (by omega)]; exact q4
      · rw [sF_uF, if_pos ⟨rfl, rfl⟩, u2_eq]
    · rw [hF 15 _ (by omega)]; exact r1
    · rw [u2_ne1 (by omega)]; exact r2
    · rw [hF 16 _ (by omega), hF 17 _ (by omega), hF 18 _ (by omega), hF 19 _ (by omega), u2_ne1 (by omega), u2_ne1 (by omega), u2_ne1 (by omega)]
      exact u
    · obtain ⟨v1, v2, v3, v4, v5, v6⟩ := v m hm
      refine ⟨by rw [sB_uF]; exact v1, hcl.1 _ 2 v2, ?_, ?_, ?_, ?_⟩
      · rw [hF 20 _ (by omega), u2_ne1 (by omega)]; exact v3
      · rw [hF 21 _ (by omega), u2_ne1 (by omega)]; exact v4
      · rw [hF 22 _ (by omega), u2_ne1 (by omega)]; exact v5
      · rw [hF 23 _ (by omega), u2_ne1 (by omega)]; exact v6
  · exact cX_to hC.2.2 hcl.1 (fun y a h3 _ => hF y a (by omega)) (fun y h3 h4 => hF y h (by omega)) (fun t _ => by rw [sB_uF]) (fun t _ => by rw [sB_uF]) (fun y _ => rfl) (fun g t hf => u2_ne1 (by omega))
/-! taken out of the book -/
def rotI (i n k : Nat) : Nat := if i ≤ k ∧ k + 1 < n then k + 1 else if k + 1 = n then i else k
def aRem (M : Nat → Nat → Int32) (i n : Nat) : Nat → Nat → Int32 := fun f x => if 5 ≤ f ∧ f ≤ 12 ∧ i ≤ x ∧ x + 1 < n then M f (x + 1) else if 13 ≤ f ∧ f ≤ 16 ∧ i ≤ x / 4 ∧ x / 4 + 1 < n then M f (x + 4) else M f x
def rotR (S S1 : hS) (bk : Nat) (ad : Nat → Nat) (i j : Nat) : Prop := (shp S S1 ∧ sF S1 = sF S) ∧ (∀ c, c ≠ bk → sB S1 c = sB S c) ∧ (∀ k, k < 40 → sB S1 bk k = some (ad (if i ≤ k ∧ k + 1 < j then k + 1 else k)))
theorem rotR_0 {S : hS} {bk i : Nat} {ad : Nat → Nat} (h : ∀ k, k < 40 → sB S bk k = some (ad k)) : rotR S S bk ad i (i + 1) := ⟨⟨⟨rfl, rfl, rfl, rfl, rfl⟩, rfl⟩, fun _ _ => rfl, fun k hk => by rw [if_neg (by omega)]; exact h k hk⟩
theorem rotR_s {S S1 : hS} {bk i j : Nat} {ad : Nat → Nat} (h : rotR S S1 bk ad i (j + 1)) (hij : i ≤ j) : rotR S (uB S1 bk j (some (ad (j + 1)))) bk ad i (j + 1 + 1) := by
  obtain ⟨⟨⟨h1, h2, h3, h4, h5⟩, h0⟩, h6, h7⟩ := h
  refine ⟨⟨⟨by rw [sL_uB]; exact h1, by rw [sK_uB]; exact h2, by rw [sR_uB]; exact h3, by rw [sN_uB]; exact h4, by rw [sA_uB]; exact h5⟩, by rw [sF_uB]; exact h0⟩, fun c hc => ?_, fun k hk => ?_⟩
  · funext z
    rw [sB_uB, if_neg (fun w => hc w.1), h6 c hc]
  · rw [sB_uB]
    by_cases hkj : k = j
    · rw [if_pos ⟨rfl, hkj⟩, if_pos (by omega), hkj]
    · rw [if_neg (fun w => hkj w.2), h7 k hk]
      by_cases hc : i ≤ k ∧ k + 1 < j + 1
      · rw [if_pos hc, if_pos (by omega)]
      · rw [if_neg hc, if_neg (by omega)]
theorem aRem_lo {M : Nat → Nat → Int32} {i n f x : Nat} (h : f < 5 ∨ 16 < f) : aRem M i n f x = M f x := by
  unfold aRem
  rw [if_neg (by omega), if_neg (by omega)]
theorem aRem_at {M : Nat → Nat → Int32} {i n f x : Nat} (h : 5 ≤ f) (h2 : f ≤ 12) (hx : x + 1 < n) : aRem M i n f x = M f (rotI i n x) := by
  unfold aRem rotI
  by_cases hc : i ≤ x
  · rw [if_pos ⟨h, h2, hc, hx⟩, if_pos ⟨hc, hx⟩]
  · rw [if_neg (by omega), if_neg (by omega), if_neg (by omega), if_neg (by omega)]
theorem aRem_at4 {M : Nat → Nat → Int32} {i n f x k : Nat} (h : 13 ≤ f) (h2 : f ≤ 16) (hk : k < 4) (hx : x + 1 < n) : aRem M i n f (4 * x + k) = M f (4 * rotI i n x + k) := by
  unfold aRem rotI
  by_cases hc : i ≤ x
  · rw [if_neg (by omega), if_pos (by omega), if_pos ⟨hc, hx⟩]
    exact congrArg (M f) (by omega)
  · rw [if_neg (by omega), if_neg (by omega), if_neg (by omega), if_neg (by omega)]
theorem rotI_inj {i n k m : Nat} (hi : i < n) (h : rotI i n k = rotI i n m) : k = m := by
  unfold rotI at h
  split at h <;> split at h <;> (try split at h) <;> (try split at h) <;> omega
theorem rotI_lt {i n k N : Nat} (hi : i < n) (hn : n ≤ N) (h : k < N) : rotI i n k < N := by
  unfold rotI
  split <;> (try split) <;> omega
theorem rotI_ltn {i n k : Nat} (hi : i < n) (h : k + 1 < n) : rotI i n k < n := by
  unfold rotI
  split <;> (try split) <;> omega
theorem cC_rem {S S1 : hS} {h bk ca sa i n : Nat} {ad pa : Nat → Nat} {sc : Nat → Int32} {M : Nat → Nat → Int32} {nc ns : Nat} (hG : cG S h bk ca sa ad pa) (hC : cC S h ca sa ad pa sc M (n + 1) nc ns) (hi : i < n + 1) (hR : rotR S S1 bk ad i (n + 1)) :
    cP S (uB (uF S1 41 h (nI n)) bk n (some (ad i))) h bk ca sa (fun k => ad (rotI i (n + 1) k)) pa (scN sc n) (aRem M i (n + 1)) n nc ns := by
  obtain ⟨⟨hs, h0⟩, h6, h7⟩ := hR
  have hn := hC.1.2.2
  have hs2 : shp S (uB (uF S1 41 h (nI n)) bk n (some (ad i))) := by
    obtain ⟨h1, h2, h3, h4, h5⟩ := hs
    exact ⟨by rw [sL_uB, sL_uF]; exact h1, by rw [sK_uB, sK_uF]; exact h2, by rw [sR_uB, sR_uF]; exact h3, by rw [sN_uB, sN_uF]; exact h4, by rw [sA_uB, sA_uF]; exact h5⟩
  have hF : ∀ x a, ¬ (x = 41 ∧ a = h) → sF (uB (uF S1 41 h (nI n)) bk n (some (ad i))) x a = sF S x a := fun x a hxa => by rw [sF_uB, sF_uF, if_neg hxa, h0]
  have hB : ∀ c, c ≠ bk → sB (uB (uF S1 41 h (nI n)) bk n (some (ad i))) c = sB S c := fun c hc => by
    funext z
    rw [sB_uB, if_neg (fun w => hc w.1), sB_uF, h6 c hc]
  have off : ∀ {z t}, isO S z t → t ≠ 9 → z ≠ bk := fun hz ht w => ht (by rw [← hz.2, w]; exact hG.2.1.2.1.2)
  have hcl := shp_clF hs2 (fun x a hx => hF x a (by omega))
  have hpa : ∀ k, k < 40 → pa (ad k) ≠ bk := fun k hk => off (hG.2.2.2.2.1 k hk).2.2.2.1 (by decide)
  refine ⟨shp_cG hs2 hG (fun k hk => ⟨rotI i (n + 1) k, rotI_lt hi hn hk, rfl, ?_⟩) (fun k m hk hm he => ?_), ⟨⟨?_, va_up_self _ _ _, by omega⟩, fun k hk => ?_, ?_⟩, hcl⟩
  · rw [sB_uB]
    by_cases hkn : k = n
    · rw [if_pos ⟨rfl, hkn⟩]
      unfold rotI
      rw [if_neg (by omega), if_pos (by omega)]
    · rw [if_neg (fun w => hkn w.2), sB_uF, h7 k hk]
      unfold rotI
      by_cases hc : i ≤ k ∧ k + 1 < n + 1
      · rw [if_pos hc, if_pos hc]
      · rw [if_neg hc, if_neg hc, if_neg (by omega)]
  · exact rotI_inj hi (hG.2.2.2.2.2.1 _ _ (rotI_lt hi hn hk) (rotI_lt hi hn hm) he)
  · rw [sF_uB, sF_uF, if_pos ⟨rfl, rfl⟩]
  · have hr := rotI_ltn hi (k := k) (by omega)
    obtain ⟨pt, m, hL⟩ := hC.2.1 _ hr
    exact ⟨pt, m, lnR_to hL (fun x h1 h2 => hF x _ (by omega)) (fun q hq => ⟨shp_o hs2 _ _ hq, fun x h1 h2 => hF x q (by omega)⟩) (fun j hj => by rw [hB _ (hpa _ (by omega))]) (fun f h1 h2 => aRem_at h1 h2 (by omega)) (fun f j h1 h2 hj => aRem_at4 h1 h2 hj (by omega))⟩
  · exact cX_to hC.2.2 (shp_o hs2) (fun x a h3 _ => hF x a (by omega)) (fun x h3 h4 => hF x h (by omega)) (fun t _ => by rw [hB ca (off hG.2.2.1.2.1 (by decide))]) (fun t _ => by rw [hB sa (off hG.2.2.2.1.2.1 (by decide))]) (fun x hx => va_up_ne _ _ hx) (fun f t hf => aRem_lo (by omega))
/-! seen today -/
def aSee (b : Nat → Bool) (d : Int32) (M : Nat → Nat → Int32) : Nat → (Nat → Nat → Int32)
  | 0 => M
  | j + 1 => if b j then u2 (aSee b d M j) 7 j d else aSee b d M j
theorem aSee_f {b : Nat → Bool} {d : Int32} {M : Nat → Nat → Int32} {f : Nat} (hf : f ≠ 7) : ∀ j, aSee b d M j f = M f := by
  intro j
  induction j with
  | zero => rfl
  | succ j ih =>
    unfold aSee
    by_cases hb : b j = true
    · rw [if_pos hb, u2_off _ _ _ hf, ih]
    · rw [if_neg hb, ih]
theorem mt_congr {M M' : Nat → Nat → Int32} (h : ∀ f, 9 ≤ f → f ≤ 16 → M' f = M f) (i : Nat) (name port : Int32) : mt M' i name port = mt M i name port := by
  unfold mt sz
  have e1 : ft M' i name port = ft M i name port := by
    funext k
    unfold ft
    rw [h 13 (by decide) (by decide), h 14 (by decide) (by decide), h 15 (by decide) (by decide)]
  have e2 : dn M' i = dn M i := by
    funext k
    unfold dn
    rw [h 16 (by decide) (by decide)]
  rw [e1, e2, h 9 (by decide) (by decide), h 10 (by decide) (by decide), h 11 (by decide) (by decide), h 12 (by decide) (by decide)]
def seeB (M : Nat → Nat → Int32) (day key au name port : Int32) (i : Nat) : Bool := !decide (M 6 i = 1) && !en day (M 8 i) && (decide (M 5 i = key) || decide (M 5 i = au)) && mt M i name port
theorem aSee_mt {b : Nat → Bool} {d : Int32} {M : Nat → Nat → Int32} {j : Nat} (i : Nat) (name port : Int32) : mt (aSee b d M j) i name port = mt M i name port := mt_congr (fun f h1 h2 => aSee_f (by omega) j) i name port
theorem aSee_s0 {b : Nat → Bool} {d : Int32} {M : Nat → Nat → Int32} {j : Nat} (h : b j = false) : aSee b d M (j + 1) = aSee b d M j := by rw [aSee, h]; rfl
theorem aSee_s1 {b : Nat → Bool} {d : Int32} {M : Nat → Nat → Int32} {j : Nat} (h : b j = true) : aSee b d M (j + 1) = u2 (aSee b d M j) 7 j d := by rw [aSee, h]; rfl
/-! turned: the lines one by one -/
def tlB (M : Nat → Nat → Int32) (day old name port : Int32) (i : Nat) : Bool := decide (M 6 i = 0) && !en day (M 8 i) && decide (M 5 i = old) && mt M i name port
def tlE (e d : Int32) : Int32 := if e = -1 ∨ d < e then d else e
def tlS (day name port old other days : Int32) (j : Nat) (T : (Nat → Nat → Int32) × Nat) : (Nat → Nat → Int32) × Nat :=
  if T.2 < 40 ∧ tlB T.1 day old name port j = true then (u2 (aLike (aAdd T.1 T.2 0 other day) T.2 j) 8 j (tlE (T.1 8 j) (day + days)), T.2 + 1) else T
def tl (day name port old other days : Int32) (T : (Nat → Nat → Int32) × Nat) : Nat → (Nat → Nat → Int32) × Nat
  | 0 => T
  | j + 1 => tlS day name port old other days j (tl day name port old other days T j)
theorem tl_full {day name port old other days : Int32} {T : (Nat → Nat → Int32) × Nat} {j : Nat} (h : ¬ (tl day name port old other days T j).2 < 40) : ∀ r, tl day name port old other days T (j + r) = tl day name port old other days T j := by
  intro r
  induction r with
  | zero => rfl
  | succ r ih =>
    rw [← Nat.add_assoc, tl, ih, tlS, if_neg (fun z => h z.1)]
theorem tl_ge {day name port old other days : Int32} {T : (Nat → Nat → Int32) × Nat} : ∀ j, T.2 ≤ (tl day name port old other days T j).2 := by
  intro j
  induction j with
  | zero => exact Nat.le_refl _
  | succ j ih =>
    rw [tl, tlS]
    split
    · exact Nat.le_succ_of_le ih
    · exact ih
/-! cleaned: the lines from the last one down -/
def clB (M : Nat → Nat → Int32) (day days : Int32) (i : Nat) : Bool := decide (M 6 i = 0) && (en day (M 8 i) || decide (days ≤ day - M 7 i))
def clS (day days : Int32) (k : Nat) (T : (Nat → Nat → Int32) × Nat) : (Nat → Nat → Int32) × Nat := if clB T.1 day days k = true then (aRem T.1 k T.2, T.2 - 1) else T
def cl (day days : Int32) : Nat → (Nat → Nat → Int32) × Nat → (Nat → Nat → Int32) × Nat
  | 0, T => T
  | k + 1, T => cl day days k (clS day days k T)

