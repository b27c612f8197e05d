/-! BOTH SIDES JUDGE ALIKE -/
theorem its_pos {M : Nat → Nat → Int32} {i : Nat} {key : Int32} : (2 : Int32) ≤ its M i key := by
  unfold its
  split
  · decide
  · split <;> decide
theorem bst_in {day : Int32} {M : Nat → Nat → Int32} {name port key : Int32} : ∀ n, (2 : Int32) ≤ bst day M name port key n ∧ bst day M name port key n ≤ 5 := by
  intro n
  induction n with
  | zero => exact ⟨show (2 : Int32) ≤ 5 by decide, show (5 : Int32) ≤ 5 by decide⟩
  | succ n ih =>
    rw [bst]
    split
    · rename_i h
      exact ⟨its_pos, Int32.le_trans (Int32.le_of_lt h.2) ih.2⟩
    · exact ih
def rvk (day : Int32) (M : Nat → Nat → Int32) (name port key au : Int32) (n : Nat) : Bool := anyN (ln day M 1 key true name port) n || anyN (ln day M 1 au true name port) n
theorem rvk_s {day : Int32} {M : Nat → Nat → Int32} {name port key au : Int32} {n : Nat} : rvk day M name port key au (n + 1) = (rvk day M name port key au n || (mt M n name port && (decide (M 6 n = 1) && (decide (M 5 n = key) || decide (M 5 n = au))))) := by
  unfold rvk
  rw [anyN, anyN]
  unfold ln
  generalize anyN _ n = a
  generalize anyN _ n = b
  generalize decide (M 6 n = 1) = c
  generalize decide (M 5 n = key) = d
  generalize decide (M 5 n = au) = e
  generalize mt M n name port = f
  cases a <;> cases b <;> cases c <;> cases d <;> cases e <;> cases f <;> rfl
theorem imin_r {x y : Int32} (h : y < x) : imin x y = y := if_pos h
theorem imin_l {x y : Int32} (h : x ≤ y) : imin x y = x := if_neg (Int32.not_lt.mpr h)
theorem jb_eq {day : Int32} {M : Nat → Nat → Int32} {name port key au : Int32} : ∀ n, jb day M name port key au n = if rvk day M name port key au n = true then 0 else bst day M name port key n := by
  intro n
  induction n with
  | zero => rfl
  | succ n ih =>
    have hb := bst_in (day := day) (M := M) (name := name) (port := port) (key := key) n
    rw [rvk_s]
    cases hm : mt M n name port with
    | false =>
      rw [jb_s0 hm, ih, Bool.false_and, Bool.or_false, bst_0 (by rw [hm, Bool.and_false])]
    | true =>
      rw [jb_s1 hm, ih, Bool.true_and]
      unfold jm jmF
      by_cases hr : M 6 n = 1 ∧ (M 5 n = key ∨ M 5 n = au)
      · have e : (decide (M 6 n = 1) && (decide (M 5 n = key) || decide (M 5 n = au))) = true := by
          rw [decide_eq_true hr.1, Bool.true_and, Bool.or_eq_true]
          rcases hr.2 with z | z
          · exact Or.inl (decide_eq_true z)
          · exact Or.inr (decide_eq_true z)
        rw [if_pos hr, e, Bool.or_true, if_pos rfl]
        by_cases hv : rvk day M name port key au n = true
        · rw [if_pos hv]; rfl
        · rw [if_neg hv, imin_r (Int32.lt_of_lt_of_le (by decide) hb.1)]
      · have e : (decide (M 6 n = 1) && (decide (M 5 n = key) || decide (M 5 n = au))) = false := by
          rw [Bool.and_eq_false_iff]
          by_cases h1 : M 6 n = 1
          · right
            rw [Bool.or_eq_false_iff]
            exact ⟨decide_eq_false (fun z => hr ⟨h1, Or.inl z⟩), decide_eq_false (fun z => hr ⟨h1, Or.inr z⟩)⟩
          · exact Or.inl (decide_eq_false h1)
        rw [if_neg hr, e, Bool.or_false]
        by_cases hl : M 6 n = 0 ∧ en day (M 8 n) = false
        · have hnn : ¬ ¬ (M 6 n = 0 ∧ en day (M 8 n) = false) := not_not_intro hl
          rw [if_neg hnn]
          have hcd : (decide (M 6 n = 0) && !en day (M 8 n) && mt M n name port) = true := by rw [decide_eq_true hl.1, hl.2, hm]; rfl
          have hits : (if M 5 n = key then (2 : Int32) else if M 5 n % 3 = key % 3 then 3 else 4) = its M n key := rfl
          rw [hits]
          by_cases hv : rvk day M name port key au n = true
          · rw [if_pos hv, if_pos hv, imin_l (Int32.le_trans (by decide) its_pos)]
          · rw [if_neg hv, if_neg hv]
            by_cases hq : bst day M name port key n ≤ its M n key
            · rw [imin_l hq, bst_ge rfl hq]
            · rw [imin_r (Int32.not_le.mp hq), bst_lt hcd rfl hq]
        · rw [if_pos hl]
          have hcd : (decide (M 6 n = 0) && !en day (M 8 n) && mt M n name port) = false := by
            rw [hm, Bool.and_true, Bool.and_eq_false_iff]
            by_cases h1 : M 6 n = 0
            · right
              cases h2 : en day (M 8 n) with
              | true => rfl
              | false => exact absurd ⟨h1, h2⟩ hl
            · exact Or.inl (decide_eq_false h1)
          rw [bst_0 hcd]
          by_cases hv : rvk day M name port key au n = true
          · rw [if_pos hv, imin_l (by decide)]
          · rw [if_neg hv, imin_l hb.2]
theorem jb_none {day : Int32} {M : Nat → Nat → Int32} {n ns : Nat} {name port key : Int32} (hk : ∀ i, i < n → ¬ M 5 i = -1) : jb day M name port key (-1) n = jg day M n ns name port key none := by
  have e : anyN (ln day M 1 (-1) true name port) n = false := anyN_false.mpr (fun k hkn => by
    unfold ln
    rw [decide_eq_false (hk k hkn), Bool.and_false]
    rfl)
  rw [jb_eq]
  unfold rvk
  rw [e, Bool.or_false]
  cases h : anyN (ln day M 1 key true name port) n with
  | true => rw [if_pos rfl, jg_n0 h]
  | false => rw [if_neg (by decide), jg_n1 h]
theorem jo_some {day : Int32} {M : Nat → Nat → Int32} {n ns c : Nat} {name port key : Int32} : jo day M n ns name port key c = jg day M n ns name port key (some c) := by
  have hb := (bst_in (day := day) (M := M) (name := name) (port := port) (key := key) n).1
  have hb0 : ¬ bst day M name port key n = 0 := fun z => by rw [z] at hb; exact absurd hb (by decide)
  unfold jo
  rw [jb_eq]
  unfold rvk
  cases h1 : anyN (ln day M 1 key true name port) n with
  | true =>
    rw [Bool.true_or, if_pos rfl, if_neg (fun z => z.1 rfl), jg_c0 (Or.inl h1)]
  | false =>
    cases h2 : anyN (ln day M 1 (M 18 c) true name port) n with
    | true =>
      rw [Bool.or_true, if_pos rfl, if_neg (fun z => z.1 rfl), jg_c0 (Or.inr h2)]
    | false =>
      have hft : ¬ (false = true) := by decide
      rw [Bool.or_false, if_neg hft]
      by_cases h3 : M 19 c = key ∧ gd day M n ns c name port = true
      · rw [if_pos ⟨hb0, h3⟩, jg_c1 h1 h2 h3.1 h3.2]
      · rw [if_neg (fun z => h3 z.2), jg_c2 h1 h2 h3]
theorem aSee_cg {b b' : Nat → Bool} {d : Int32} {M : Nat → Nat → Int32} {n : Nat} (h : ∀ i, i < n → b i = b' i) : aSee b d M n = aSee b' d M n := by
  funext f x
  rw [aSee_at, aSee_at]
  by_cases hc : f = 7 ∧ x < n
  · rw [h x hc.2]
  · rw [if_neg (fun z => hc ⟨z.1, z.2.1⟩), if_neg (fun z => hc ⟨z.1, z.2.1⟩)]
theorem aAns_none {sc : Nat → Int32} {M : Nat → Nat → Int32} {n : Nat} {its name port key : Int32} (hk : ∀ i, i < n → ¬ M 5 i = -1) : aAns sc M n its (-1) name port key = aAns sc M n its key name port key := by
  unfold aAns
  rw [aSee_cg (b := seeB M (sc 1) key (-1) name port) (b' := seeB M (sc 1) key key name port) (fun i hi => by
    unfold seeB
    rw [decide_eq_false (hk i hi), Bool.or_false, Bool.or_self])]
/-! WHAT ONE SIDE DOES LEAVES THE OTHER ALONE -/
theorem mS_cl {S S' : hS} {md : Nat} {ar : Nat → Nat} {sc : Nat → Int32} {M : Nat → Nat → Int32} (h : mS S md ar sc M) (hc : clF S S') : mS S' md ar sc M := by
  obtain ⟨⟨g1, g2, g3⟩, h2, h3⟩ := h
  refine ⟨⟨hc.1 _ _ g1, fun f hf => ?_, g3⟩, fun x hx => ?_, fun f hf => ?_⟩
  · obtain ⟨a1, a2, a3⟩ := g2 f hf
    exact ⟨by rw [(hc.2.1 (60 + f) md (Nat.le_add_right 60 f) g1.1).2]; exact a1, hc.1 _ _ a2, by rw [(hc.2.2 _ a2.1).1]; exact a3⟩
  · rw [(hc.2.1 (60 + x) md (Nat.le_add_right 60 x) g1.1).1]; exact h2 x hx
  · rw [(hc.2.2 _ (g2 f hf).2.1.1).2]; exact h3 f hf
theorem cG_md {S S' : hS} {h bk ca sa : Nat} {ad pa : Nat → Nat} (hG : cG S h bk ca sa ad pa) (hm : mdN S S') : cG S' h bk ca sa ad pa := by
  obtain ⟨h1, ⟨h2, h3, h4⟩, ⟨h5, h6, h7⟩, ⟨h8, h9, h10⟩, h11, h12, h13⟩ := hG
  refine ⟨hm.1 _ _ h1, ⟨by rw [(hm.2.1 40 h (by decide) h1.1).2]; exact h2, hm.1 _ _ h3, by rw [(hm.2.2 bk h3.1).1]; exact h4⟩, ⟨by rw [(hm.2.1 42 h (by decide) h1.1).2]; exact h5, hm.1 _ _ h6, by rw [(hm.2.2 ca h6.1).1]; exact h7⟩, ⟨by rw [(hm.2.1 44 h (by decide) h1.1).2]; exact h8, hm.1 _ _ h9, by rw [(hm.2.2 sa h9.1).1]; exact h10⟩, fun i hi => ?_, h12, h13⟩
  obtain ⟨g1, g2, g3, g4, g5⟩ := h11 i hi
  exact ⟨by rw [(hm.2.2 bk h3.1).2]; exact g1, hm.1 _ _ g2, by rw [(hm.2.1 14 _ (by decide) g2.1).2]; exact g3, hm.1 _ _ g4, by rw [(hm.2.2 _ g4.1).1]; exact g5⟩
theorem cC_md {S S' : hS} {h bk ca sa : Nat} {ad pa : Nat → Nat} {sc : Nat → Int32} {M : Nat → Nat → Int32} {n nc ns : Nat} (hG : cG S h bk ca sa ad pa) (hC : cC S h ca sa ad pa sc M n nc ns) (hm : mdN S S') : cC S' h ca sa ad pa sc M n nc ns := by
  have hh : ∀ x, x < 60 → sF S' x h = sF S x h := fun x hx => (hm.2.1 x h hx hG.1.1).1
  refine ⟨⟨by rw [hh 41 (by decide)]; exact hC.1.1, hC.1.2⟩, cL_to n hC.2.1 (fun i h1 h2 => h1) (fun i h1 h2 x h3 h4 => (hm.2.1 x _ (by omega) (hG.2.2.2.2.1 i (by have := hC.1.2.2; omega)).2.1.1).1) (fun a ha => ⟨hm.1 _ _ ha, fun x h3 h4 => (hm.2.1 x a (by omega) ha.1).1⟩) (fun i h1 h2 k hk => by rw [(hm.2.2 _ (hG.2.2.2.2.1 i (by have := hC.1.2.2; omega)).2.2.2.1.1).2]) (fun i hi => ⟨fun f _ _ => rfl, fun f k _ _ _ => rfl⟩) (fun z => absurd z (Nat.lt_irrefl n)), ?_⟩
  exact cX_to hC.2.2 hm.1 (fun x a h3 ha => (hm.2.1 x a (by omega) ha).1) (fun x h3 h4 => hh x (by omega)) (fun t _ => by rw [(hm.2.2 ca hG.2.2.1.2.1.1).2]) (fun t _ => by rw [(hm.2.2 sa hG.2.2.2.1.2.1.1).2]) (fun x _ => rfl) (fun f t _ => rfl)
/-- the class's contents say nothing of the scalar 0 -/
theorem cC_sc {S : hS} {h ca sa : Nat} {ad pa : Nat → Nat} {sc sc' : Nat → Int32} {M : Nat → Nat → Int32} {n nc ns : Nat} (hC : cC S h ca sa ad pa sc M n nc ns) (hs : ∀ x, x ≠ 0 → sc' x = sc x) : cC S h ca sa ad pa sc' M n nc ns := by
  obtain ⟨⟨n1, n2, n3⟩, hL, ⟨a1, a2, a3⟩, ⟨b1, b2, b3⟩, ⟨c1, c2, c3, c4⟩, ⟨d1, d2⟩, e, f⟩ := hC
  refine ⟨⟨n1, (hs 4 (by decide)).trans n2, n3⟩, hL, ⟨a1, (hs 17 (by decide)).trans a2, a3⟩, ⟨b1, (hs 25 (by decide)).trans b2, b3⟩, ⟨by rw [hs 1 (by decide)]; exact c1, by rw [hs 2 (by decide)]; exact c2, by rw [hs 3 (by decide)]; exact c3, by rw [hs 3 (by decide)]; exact c4⟩, ⟨by rw [hs 29 (by decide)]; exact d1, ?_⟩, e, f⟩
  rw [hs 29 (by decide), hs 30 (by decide), hs 31 (by decide)]
  exact d2
theorem cC_sz {S : hS} {h ca sa : Nat} {ad pa : Nat → Nat} {sc : Nat → Int32} {M : Nat → Nat → Int32} {n nc ns : Nat} (hC : cC S h ca sa ad pa sc M n nc ns) : ∀ i, i < n → ∃ k, k ≤ 4 ∧ M 12 i = nI k := fun i hi => by
  obtain ⟨pt, k, hL⟩ := hC.2.1 i hi
  exact ⟨k, hL.2.1.2.2, hL.2.1.2.1⟩
