/-! the same rows of the pool, for simp (their proofs are no rfl to it) -/
theorem tL_uF (S : hS) (k a : Nat) (v : Int32) : sL (uF S k a v) = sL S := Eq.trans rfl (sL_uF _ _ _ _)
theorem tK_uF (S : hS) (k a : Nat) (v : Int32) : sK (uF S k a v) = sK S := Eq.trans rfl (sK_uF _ _ _ _)
theorem tF_uF (S : hS) (k a : Nat) (v : Int32) (x b : Nat) : sF (uF S k a v) x b = if x = k ∧ b = a then v else sF S x b := Eq.trans rfl (sF_uF _ _ _ _ _ _)
theorem tR_uF (S : hS) (k a : Nat) (v : Int32) : sR (uF S k a v) = sR S := Eq.trans rfl (sR_uF _ _ _ _)
theorem tN_uF (S : hS) (k a : Nat) (v : Int32) : sN (uF S k a v) = sN S := Eq.trans rfl (sN_uF _ _ _ _)
theorem tA_uF (S : hS) (k a : Nat) (v : Int32) : sA (uF S k a v) = sA S := Eq.trans rfl (sA_uF _ _ _ _)
theorem tB_uF (S : hS) (k a : Nat) (v : Int32) : sB (uF S k a v) = sB S := Eq.trans rfl (sB_uF _ _ _ _)
theorem tL_uR (S : hS) (k a : Nat) (v : Option Nat) : sL (uR S k a v) = sL S := Eq.trans rfl (sL_uR _ _ _ _)
theorem tK_uR (S : hS) (k a : Nat) (v : Option Nat) : sK (uR S k a v) = sK S := Eq.trans rfl (sK_uR _ _ _ _)
theorem tF_uR (S : hS) (k a : Nat) (v : Option Nat) : sF (uR S k a v) = sF S := Eq.trans rfl (sF_uR _ _ _ _)
theorem tR_uR (S : hS) (k a : Nat) (v : Option Nat) (x b : Nat) : sR (uR S k a v) x b = if x = k ∧ b = a then v else sR S x b := Eq.trans rfl (sR_uR _ _ _ _ _ _)
theorem tN_uR (S : hS) (k a : Nat) (v : Option Nat) : sN (uR S k a v) = sN S := Eq.trans rfl (sN_uR _ _ _ _)
theorem tA_uR (S : hS) (k a : Nat) (v : Option Nat) : sA (uR S k a v) = sA S := Eq.trans rfl (sA_uR _ _ _ _)
theorem tB_uR (S : hS) (k a : Nat) (v : Option Nat) : sB (uR S k a v) = sB S := Eq.trans rfl (sB_uR _ _ _ _)
theorem tL_uA (S : hS) (k a : Nat) (v : Int32) : sL (uA S k a v) = sL S := Eq.trans rfl (sL_uA _ _ _ _)
theorem tK_uA (S : hS) (k a : Nat) (v : Int32) : sK (uA S k a v) = sK S := Eq.trans rfl (sK_uA _ _ _ _)
theorem tF_uA (S : hS) (k a : Nat) (v : Int32) : sF (uA S k a v) = sF S := Eq.trans rfl (sF_uA _ _ _ _)
theorem tR_uA (S : hS) (k a : Nat) (v : Int32) : sR (uA S k a v) = sR S := Eq.trans rfl (sR_uA _ _ _ _)
theorem tN_uA (S : hS) (k a : Nat) (v : Int32) : sN (uA S k a v) = sN S := Eq.trans rfl (sN_uA _ _ _ _)
theorem tA_uA (S : hS) (k a : Nat) (v : Int32) (x b : Nat) : sA (uA S k a v) x b = if x = k ∧ b = a then v else sA S x b := Eq.trans rfl (sA_uA _ _ _ _ _ _)
theorem tB_uA (S : hS) (k a : Nat) (v : Int32) : sB (uA S k a v) = sB S := Eq.trans rfl (sB_uA _ _ _ _)
theorem tL_uB (S : hS) (k a : Nat) (v : Option Nat) : sL (uB S k a v) = sL S := Eq.trans rfl (sL_uB _ _ _ _)
theorem tK_uB (S : hS) (k a : Nat) (v : Option Nat) : sK (uB S k a v) = sK S := Eq.trans rfl (sK_uB _ _ _ _)
theorem tF_uB (S : hS) (k a : Nat) (v : Option Nat) : sF (uB S k a v) = sF S := Eq.trans rfl (sF_uB _ _ _ _)
theorem tR_uB (S : hS) (k a : Nat) (v : Option Nat) : sR (uB S k a v) = sR S := Eq.trans rfl (sR_uB _ _ _ _)
theorem tN_uB (S : hS) (k a : Nat) (v : Option Nat) : sN (uB S k a v) = sN S := Eq.trans rfl (sN_uB _ _ _ _)
theorem tA_uB (S : hS) (k a : Nat) (v : Option Nat) : sA (uB S k a v) = sA S := Eq.trans rfl (sA_uB _ _ _ _)
theorem tB_uB (S : hS) (k a : Nat) (v : Option Nat) (x b : Nat) : sB (uB S k a v) x b = if x = k ∧ b = a then v else sB S x b := Eq.trans rfl (sB_uB _ _ _ _ _ _)
theorem tL_nO (S : hS) (k q : Nat) : sL (nO S k q) = sL S ++ [q] := Eq.trans rfl (sL_nO _ _ _)
theorem tK_nO (S : hS) (k q : Nat) (b : Nat) : sK (nO S k q) b = if b = q then k else sK S b := Eq.trans rfl (sK_nO _ _ _ _)
theorem tF_nO (S : hS) (k q : Nat) (x b : Nat) : sF (nO S k q) x b = if b = q then 0 else sF S x b := Eq.trans rfl (sF_nO _ _ _ _ _)
theorem tR_nO (S : hS) (k q : Nat) (x b : Nat) : sR (nO S k q) x b = if b = q then none else sR S x b := Eq.trans rfl (sR_nO _ _ _ _ _)
theorem tN_nO (S : hS) (k q : Nat) : sN (nO S k q) = sN S := Eq.trans rfl (sN_nO _ _ _)
theorem tA_nO (S : hS) (k q : Nat) : sA (nO S k q) = sA S := Eq.trans rfl (sA_nO _ _ _)
theorem tB_nO (S : hS) (k q : Nat) : sB (nO S k q) = sB S := Eq.trans rfl (sB_nO _ _ _)
theorem tL_nA (S : hS) (k q n : Nat) : sL (nA S k q n) = sL S ++ [q] := Eq.trans rfl (sL_nA _ _ _ _)
theorem tK_nA (S : hS) (k q n : Nat) (b : Nat) : sK (nA S k q n) b = if b = q then k else sK S b := Eq.trans rfl (sK_nA _ _ _ _ _)
theorem tF_nA (S : hS) (k q n : Nat) : sF (nA S k q n) = sF S := Eq.trans rfl (sF_nA _ _ _ _)
theorem tR_nA (S : hS) (k q n : Nat) : sR (nA S k q n) = sR S := Eq.trans rfl (sR_nA _ _ _ _)
theorem tN_nA (S : hS) (k q n : Nat) (b : Nat) : sN (nA S k q n) b = if b = q then n else sN S b := Eq.trans rfl (sN_nA _ _ _ _ _)
theorem tA_nA (S : hS) (k q n : Nat) (b j : Nat) : sA (nA S k q n) b j = if b = q then 0 else sA S b j := Eq.trans rfl (sA_nA _ _ _ _ _ _)
theorem tB_nA (S : hS) (k q n : Nat) (b j : Nat) : sB (nA S k q n) b j = if b = q then none else sB S b j := Eq.trans rfl (sB_nA _ _ _ _ _ _)
theorem u2_at' {α : Type} (f : Nat → Nat → α) (i j : Nat) (v : α) (x y : Nat) : u2 f i j v x y = if x = i ∧ y = j then v else f x y := Eq.trans rfl (u2_at f i j v x y)
/-! a fact of the pool behind a step -/
theorem o_uF {S : hS} {k a b t : Nat} {v : Int32} (h : isO S b t) : isO (uF S k a v) b t := h
theorem n_uF {S : hS} {k a b N : Nat} {v : Int32} (h : sN S b = N) : sN (uF S k a v) b = N := h
theorem r_uF {S : hS} {k a x b : Nat} {v : Int32} {r : Option Nat} (h : sR S x b = r) : sR (uF S k a v) x b = r := h
theorem b_uF {S : hS} {k a x b : Nat} {v : Int32} {r : Option Nat} (h : sB S x b = r) : sB (uF S k a v) x b = r := h
theorem o_uR {S : hS} {k a b t : Nat} {v : Option Nat} (h : isO S b t) : isO (uR S k a v) b t := h
theorem n_uR {S : hS} {k a b N : Nat} {v : Option Nat} (h : sN S b = N) : sN (uR S k a v) b = N := h
theorem b_uR {S : hS} {k a x b : Nat} {v : Option Nat} {r : Option Nat} (h : sB S x b = r) : sB (uR S k a v) x b = r := h
theorem o_uB {S : hS} {k a b t : Nat} {v : Option Nat} (h : isO S b t) : isO (uB S k a v) b t := h
theorem n_uB {S : hS} {k a b N : Nat} {v : Option Nat} (h : sN S b = N) : sN (uB S k a v) b = N := h
theorem r_uB {S : hS} {k a x b : Nat} {v : Option Nat} {r : Option Nat} (h : sR S x b = r) : sR (uB S k a v) x b = r := h
theorem o_uA {S : hS} {k a b t : Nat} {v : Int32} (h : isO S b t) : isO (uA S k a v) b t := h
theorem n_uA {S : hS} {k a b N : Nat} {v : Int32} (h : sN S b = N) : sN (uA S k a v) b = N := h
theorem r_uA {S : hS} {k a x b : Nat} {v : Int32} {r : Option Nat} (h : sR S x b = r) : sR (uA S k a v) x b = r := h
theorem b_uA {S : hS} {k a x b : Nat} {v : Int32} {r : Option Nat} (h : sB S x b = r) : sB (uA S k a v) x b = r := h
theorem n_nO {S : hS} {k q b N : Nat} (h : sN S b = N) : sN (nO S k q) b = N := h
theorem b_nO {S : hS} {k q x b : Nat} {r : Option Nat} (h : sB S x b = r) : sB (nO S k q) x b = r := h
theorem r_nA {S : hS} {k q n x b : Nat} {r : Option Nat} (h : sR S x b = r) : sR (nA S k q n) x b = r := h
theorem sN_nA_self (S : hS) (k q n : Nat) : sN (nA S k q n) q = n := va_up_self _ _ _
/-! WHAT THE CLASS'S WRITERS DO, to the pool and to the state -/
def beginS (S : hS) (a : Nat) (mk key day : Int32) : hS := uF (uF (uF (uF (uF (uF S 10 a mk) 11 a key) 12 a day) 13 a (-1)) 15 a 0) 16 a 0
def appS (S : hS) (h a n : Nat) (mk key day : Int32) : hS := beginS (uF S 41 h (nI (n + 1))) a mk key day
def hashS (S : hS) (a : Nat) (name port salt : Int32) : hS := uF (uF (uF (uF S 16 a 1) 17 a (hsh name salt)) 18 a salt) 19 a port
def patI (S : hS) (q : Nat) (name places port den : Int32) : hS := uF (uF (uF (uF S 20 q name) 21 q places) 22 q port) 23 q den
def patT (S : hS) (pa q k : Nat) (name places port den : Int32) : hS := uB (patI (nO S 2 q) q name places port den) pa k (some q)
def patS (S : hS) (a pa q k : Nat) (name places port den : Int32) : hS := uF (patT S pa q k name places port den) 15 a (nI (k + 1))
def certI (S : hS) (q : Nat) (au key name places serial first last : Int32) : hS := uF (uF (uF (uF (uF (uF (uF S 0 q au) 1 q key) 2 q name) 3 q places) 4 q serial) 5 q first) 6 q last
def spanI (S : hS) (q : Nat) (au fr to : Int32) : hS := uF (uF (uF S 30 q au) 31 q fr) 32 q to
def scN (sc : Nat → Int32) (n : Nat) : Nat → Int32 := va_up sc 4 (nI n)
def aAdd (M : Nat → Nat → Int32) (n : Nat) (mk key day : Int32) : Nat → Nat → Int32 := u2 (u2 (u2 (u2 (u2 (u2 M 5 n key) 6 n mk) 7 n day) 8 n (-1)) 9 n (-1)) 12 n 0
def aHash (M : Nat → Nat → Int32) (i : Nat) (name port salt : Int32) : Nat → Nat → Int32 := u2 (u2 (u2 M 9 i salt) 10 i (hsh name salt)) 11 i port
def aPat (M : Nat → Nat → Int32) (i k : Nat) (name places port den : Int32) : Nat → Nat → Int32 := u2 (u2 (u2 (u2 (u2 M 13 (4 * i + k) name) 14 (4 * i + k) places) 15 (4 * i + k) port) 16 (4 * i + k) den) 12 i (nI (k + 1))
/-- a step of the class leaves the model's cells alone; a step of the model the class's -/
def clF (S S' : hS) : Prop := (∀ a k, isO S a k → isO S' a k) ∧ (∀ x a, 60 ≤ x → a ∈ sL S → sF S' x a = sF S x a ∧ sR S' x a = sR S x a) ∧ (∀ a, a ∈ sL S → sN S' a = sN S a ∧ sA S' a = sA S a)
def mdF (S S' : hS) : Prop := (∀ a k, isO S a k → isO S' a k) ∧ (∀ x a, x < 60 → sF S' x a = sF S x a ∧ sR S' x a = sR S x a) ∧ (∀ a, sN S' a = sN S a ∧ sB S' a = sB S a)
theorem clF.rf (S : hS) : clF S S := ⟨fun _ _ h => h, fun _ _ _ _ => ⟨rfl, rfl⟩, fun _ _ => ⟨rfl, rfl⟩⟩
theorem clF.tr {S T U : hS} (h1 : clF S T) (h2 : clF T U) (hL : ∀ a, a ∈ sL S → a ∈ sL T) : clF S U :=
  ⟨fun a k h => h2.1 a k (h1.1 a k h), fun x a hx ha => ⟨((h2.2.1 x a hx (hL a ha)).1).trans (h1.2.1 x a hx ha).1, ((h2.2.1 x a hx (hL a ha)).2).trans (h1.2.1 x a hx ha).2⟩, fun a ha => ⟨((h2.2.2 a (hL a ha)).1).trans (h1.2.2 a ha).1, ((h2.2.2 a (hL a ha)).2).trans (h1.2.2 a ha).2⟩⟩
theorem clF.mem {S T : hS} (h : clF S T) : ∀ a, a ∈ sL S → a ∈ sL T := fun a ha => (h.1 a (sK S a) ⟨ha, rfl⟩).1
theorem clF.trans {S T U : hS} (h1 : clF S T) (h2 : clF T U) : clF S U := h1.tr h2 h1.mem
theorem clF_uF (S : hS) {k : Nat} (a : Nat) (v : Int32) (hk : k < 60) : clF S (uF S k a v) :=
  ⟨fun _ _ h => h, fun x b hx _ => ⟨by rw [sF_uF, if_neg (fun z => by omega)], rfl⟩, fun _ _ => ⟨rfl, rfl⟩⟩
theorem clF_uB (S : hS) (a j : Nat) (v : Option Nat) : clF S (uB S a j v) := ⟨fun _ _ h => h, fun _ _ _ _ => ⟨rfl, rfl⟩, fun _ _ => ⟨rfl, rfl⟩⟩
theorem ne_of_mem {L : List Nat} {a q : Nat} (ha : a ∈ L) (hq : q ∉ L) : a ≠ q := fun z => hq (by rw [← z]; exact ha)
theorem clF_nO {S : hS} {k q : Nat} (hq : q ∉ sL S) : clF S (nO S k q) :=
  ⟨fun _ _ h => isO_nO' h hq, fun x b _ hb => ⟨by rw [sF_nO, if_neg (ne_of_mem hb hq)], by rw [sR_nO, if_neg (ne_of_mem hb hq)]⟩, fun _ _ => ⟨rfl, rfl⟩⟩
theorem clF_beginS (S : hS) (a : Nat) (mk key day : Int32) : clF S (beginS S a mk key day) := by
  unfold beginS
  exact (((((clF_uF _ _ _ (by decide)).trans (clF_uF _ _ _ (by decide))).trans (clF_uF _ _ _ (by decide))).trans (clF_uF _ _ _ (by decide))).trans (clF_uF _ _ _ (by decide))).trans (clF_uF _ _ _ (by decide))
theorem clF_appS (S : hS) (h a n : Nat) (mk key day : Int32) : clF S (appS S h a n mk key day) := (clF_uF _ _ _ (by decide)).trans (clF_beginS _ _ _ _ _)
theorem clF_hashS (S : hS) (a : Nat) (name port salt : Int32) : clF S (hashS S a name port salt) := by
  unfold hashS
  exact (((clF_uF _ _ _ (by decide)).trans (clF_uF _ _ _ (by decide))).trans (clF_uF _ _ _ (by decide))).trans (clF_uF _ _ _ (by decide))
theorem clF_patS {S : hS} {q : Nat} (a pa k : Nat) (name places port den : Int32) (hq : q ∉ sL S) : clF S (patS S a pa q k name places port den) := by
  unfold patS patT patI
  exact ((((((clF_nO hq).trans (clF_uF _ _ _ (by decide))).trans (clF_uF _ _ _ (by decide))).trans (clF_uF _ _ _ (by decide))).trans (clF_uF _ _ _ (by decide))).trans (clF_uB _ _ _ _)).trans (clF_uF _ _ _ (by decide))
/-! the cells -/
theorem cG_uF {S : hS} {h bk ca sa : Nat} {ad pa : Nat → Nat} (k a : Nat) (v : Int32) (hG : cG S h bk ca sa ad pa) : cG (uF S k a v) h bk ca sa ad pa := hG
theorem cG_nO {S : hS} {h bk ca sa : Nat} {ad pa : Nat → Nat} {k q : Nat} (hG : cG S h bk ca sa ad pa) (hq : q ∉ sL S) : cG (nO S k q) h bk ca sa ad pa := by
  obtain ⟨h1, ⟨h2, h3, h4⟩, ⟨h5, h6, h7⟩, ⟨h8, h9, h10⟩, h11, h12, h13⟩ := hG
  have hr : ∀ x, sR (nO S k q) x h = sR S x h := fun x => by rw [sR_nO, if_neg (ne_of_mem h1.1 hq)]
  refine ⟨isO_nO' h1 hq, ⟨by rw [hr]; exact h2, isO_nO' h3 hq, h4⟩, ⟨by rw [hr]; exact h5, isO_nO' h6 hq, h7⟩, ⟨by rw [hr]; exact h8, isO_nO' h9 hq, h10⟩, fun i hi => ?_, h12, h13⟩
  obtain ⟨g1, g2, g3, g4, g5⟩ := h11 i hi
  exact ⟨g1, isO_nO' g2 hq, by rw [sR_nO, if_neg (ne_of_mem g2.1 hq)]; exact g3, isO_nO' g4 hq, g5⟩
theorem cG_uB {S : hS} {h bk ca sa : Nat} {ad pa : Nat → Nat} {a : Nat} (j : Nat) (v : Option Nat) (hG : cG S h bk ca sa ad pa) (ha : sK S a ≠ 9) : cG (uB S a j v) h bk ca sa ad pa := by
  obtain ⟨h1, h2, h3, h4, h11, h12, h13⟩ := hG
  refine ⟨h1, h2, h3, h4, fun i hi => ⟨?_, (h11 i hi).2⟩, h12, h13⟩
  rw [sB_uB, if_neg (fun z => ha (by rw [← z.1]; exact h2.2.1.2))]
  exact (h11 i hi).1
/-! the contents -/
theorem cX_to {S S' : hS} {h ca sa : Nat} {sc sc' : Nat → Int32} {M M' : Nat → Nat → Int32} {nc ns : Nat} (h0 : cX S h ca sa sc M nc ns) (hO : ∀ a k, isO S a k → isO S' a k) (hF : ∀ x a, x < 7 ∨ (30 ≤ x ∧ x < 33) → a ∈ sL S → sF S' x a = sF S x a) (hH : ∀ x, 43 ≤ x → x < 52 → sF S' x h = sF S x h)
    (hB1 : ∀ i, i < 20 → sB S' ca i = sB S ca i) (hB2 : ∀ i, i < 20 → sB S' sa i = sB S sa i) (hs : ∀ x, x ≠ 4 → sc' x = sc x) (hM : ∀ f i, 18 ≤ f → M' f i = M f i) : cX S' h ca sa sc' M' nc ns := by
  obtain ⟨⟨a1, a2, a3⟩, ⟨b1, b2, b3⟩, ⟨c1, c2, c3, c4⟩, ⟨d1, d2⟩, e, f⟩ := h0
  refine ⟨⟨by rw [hH 43 (by decide) (by decide)]; exact a1, by rw [hs 17 (by decide)]; exact a2, a3⟩, ⟨by rw [hH 45 (by decide) (by decide)]; exact b1, by rw [hs 25 (by decide)]; exact b2, b3⟩, ⟨by rw [hH 46 (by decide) (by decide), hs 1 (by decide)]; exact c1, by rw [hH 47 (by decide) (by decide), hs 2 (by decide)]; exact c2, by rw [hH 48 (by decide) (by decide), hs 3 (by decide)]; exact c3, by rw [hs 3 (by decide)]; exact c4⟩, ⟨by rw [hH 51 (by decide) (by decide), hs 29 (by decide)]; exact d1, fun hz => ?_⟩, fun i hi => ?_, fun i hi => ?_⟩
  · rw [hs 29 (by decide)] at hz
    rw [hH 49 (by decide) (by decide), hH 50 (by decide) (by decide), hs 30 (by decide), hs 31 (by decide)]
    exact d2 hz
  · obtain ⟨a, g0, g1, g2, g3, g4, g5, g6, g7, g8⟩ := e i hi
    refine ⟨a, by rw [hB1 i (by omega)]; exact g0, hO a 0 g1, ?_⟩
    rw [hF 0 a (by omega) g1.1, hF 1 a (by omega) g1.1, hF 2 a (by omega) g1.1, hF 3 a (by omega) g1.1, hF 4 a (by omega) g1.1, hF 5 a (by omega) g1.1, hF 6 a (by omega) g1.1, hM 18 i (by decide), hM 19 i (by decide), hM 20 i (by decide), hM 21 i (by decide), hM 22 i (by decide), hM 23 i (by decide), hM 24 i (by decide)]
    exact ⟨g2, g3, g4, g5, g6, g7, g8⟩
  · obtain ⟨a, g0, g1, g2, g3, g4⟩ := f i hi
    refine ⟨a, by rw [hB2 i (by omega)]; exact g0, hO a 3 g1, ?_⟩
    rw [hF 30 a (by omega) g1.1, hF 31 a (by omega) g1.1, hF 32 a (by omega) g1.1, hM 26 i (by decide), hM 27 i (by decide), hM 28 i (by decide)]
    exact ⟨g2, g3, g4⟩
theorem cL_to {S S' : hS} {ad pa : Nat → Nat} {M M' : Nat → Nat → Int32} {n n' : Nat} (i0 : Nat) (h : cL S ad pa M n) (hlt : ∀ i, i < n' → i ≠ i0 → i < n)
    (hne : ∀ i, i < n' → i ≠ i0 → ∀ x, 10 ≤ x → x < 20 → sF S' x (ad i) = sF S x (ad i)) (hP : ∀ a, isO S a 2 → isO S' a 2 ∧ ∀ x, 20 ≤ x → x < 24 → sF S' x a = sF S x a)
    (hB : ∀ i, i < n' → i ≠ i0 → ∀ k, k < 4 → sB S' (pa (ad i)) k = sB S (pa (ad i)) k) (hM : ∀ i, i ≠ i0 → (∀ f, 5 ≤ f → f ≤ 12 → M' f i = M f i) ∧ ∀ f k, 13 ≤ f → f ≤ 16 → k < 4 → M' f (4 * i + k) = M f (4 * i + k))
    (h0 : i0 < n' → ∃ pt' k', lnR S' (ad i0) (pa (ad i0)) pt' M' i0 k') : cL S' ad pa M' n' := by
  intro i hi
  by_cases hii : i = i0
  · subst hii
    exact h0 hi
  · obtain ⟨pt, k, ⟨q1, q2, q3, q4⟩, ⟨r1, r2, r3⟩, u, v⟩ := h i (hlt i hi hii)
    obtain ⟨m1, m2⟩ := hM i hii
    have hf := hne i hi hii
    refine ⟨pt, k, ⟨?_, ?_, ?_, ?_⟩, ⟨?_, ?_, r3⟩, ?_, fun j hj => ?_⟩
    · rw [hf 10 (by decide) (by decide), m1 6 (by decide) (by decide)]; exact q1
    · rw [hf 11 (by decide) (by decide), m1 5 (by decide) (by decide)]; exact q2
    · rw [hf 12 (by decide) (by decide), m1 7 (by decide) (by decide)]; exact q3
    · rw [hf 13 (by decide) (by decide), m1 8 (by decide) (by decide)]; exact q4
    · rw [hf 15 (by decide) (by decide)]; exact r1
    · rw [m1 12 (by decide) (by decide)]; exact r2
    · rw [hf 16 (by decide) (by decide), hf 17 (by decide) (by decide), hf 18 (by decide) (by decide), hf 19 (by decide) (by decide), m1 9 (by decide) (by decide), m1 10 (by decide) (by decide), m1 11 (by decide) (by decide)]
      exact u
    · obtain ⟨v1, v2, v3, v4, v5, v6⟩ := v j hj
      obtain ⟨p1, p2⟩ := hP _ v2
      have hj4 : j < 4 := by omega
      refine ⟨by rw [hB i hi hii j hj4]; exact v1, p1, ?_, ?_, ?_, ?_⟩
      · rw [p2 20 (by decide) (by decide), m2 13 j (by decide) (by decide) hj4]; exact v3
      · rw [p2 21 (by decide) (by decide), m2 14 j (by decide) (by decide) hj4]; exact v4
      · rw [p2 22 (by decide) (by decide), m2 15 j (by decide) (by decide) hj4]; exact v5
      · rw [p2 23 (by decide) (by decide), m2 16 j (by decide) (by decide) hj4]; exact v6
theorem u2_ne1 {α : Type} {f : Nat → Nat → α} {i j x y : Nat} {v : α} (h : x ≠ i) : u2 f i j v x y = f x y := by rw [u2_at, if_neg (fun z => h z.1)]
theorem u2_ne2 {α : Type} {f : Nat → Nat → α} {i j x y : Nat} {v : α} (h : y ≠ j) : u2 f i j v x y = f x y := by rw [u2_at, if_neg (fun z => h z.2)]
theorem u2_eq {α : Type} {f : Nat → Nat → α} {i j : Nat} {v : α} : u2 f i j v i j = v := by rw [u2_at, if_pos ⟨rfl, rfl⟩]
theorem aAdd_ne {M : Nat → Nat → Int32} {n i : Nat} {mk key day : Int32} (h : i ≠ n) (f : Nat) : aAdd M n mk key day f i = M f i := by
  unfold aAdd
  rw [u2_ne2 h, u2_ne2 h, u2_ne2 h, u2_ne2 h, u2_ne2 h, u2_ne2 h]
theorem aAdd_ge {M : Nat → Nat → Int32} {n i f : Nat} {mk key day : Int32} (h : 13 ≤ f) : aAdd M n mk key day f i = M f i := by
  unfold aAdd
  rw [u2_ne1 (by omega), u2_ne1 (by omega), u2_ne1 (by omega), u2_ne1 (by omega), u2_ne1 (by omega), u2_ne1 (by omega)]
theorem beginS_ne {S : hS} {a b x : Nat} {mk key day : Int32} (h : b ≠ a) : sF (beginS S a mk key day) x b = sF S x b := by
  unfold beginS
  simp only [sF_uF, h, and_false, if_false]
theorem beginS_ge {S : hS} {a b x : Nat} {mk key day : Int32} (h : x < 10 ∨ 20 ≤ x) : sF (beginS S a mk key day) x b = sF S x b := by
  unfold beginS
  rw [sF_uF, if_neg (by omega), sF_uF, if_neg (by omega), sF_uF, if_neg (by omega), sF_uF, if_neg (by omega), sF_uF, if_neg (by omega), sF_uF, if_neg (by omega)]
theorem sB_appS (S : hS) (h a n : Nat) (mk key day : Int32) : sB (appS S h a n mk key day) = sB S := by
  unfold appS beginS
  rw [sB_uF, sB_uF, sB_uF, sB_uF, sB_uF, sB_uF, sB_uF]
theorem appS_ge {S : hS} {h a n x b : Nat} {mk key day : Int32} (hx : x < 10 ∨ 20 ≤ x) (h41 : x ≠ 41) : sF (appS S h a n mk key day) x b = sF S x b := by
  unfold appS
  rw [beginS_ge hx, sF_uF, if_neg (fun z => h41 z.1)]
theorem appS_ne {S : hS} {h a n x b : Nat} {mk key day : Int32} (hb : b ≠ a) (h41 : x ≠ 41) : sF (appS S h a n mk key day) x b = sF S x b := by
  unfold appS
  rw [beginS_ne hb, sF_uF, if_neg (fun z => h41 z.1)]
theorem appS_41 {S : hS} {h a n : Nat} {mk key day : Int32} : sF (appS S h a n mk key day) 41 h = nI (n + 1) := by
  unfold appS
  rw [beginS_ge (by omega), sF_uF, if_pos ⟨rfl, rfl⟩]
theorem lnR_begin {S : hS} {a pa n : Nat} {pt : Nat → Nat} {M : Nat → Nat → Int32} {mk key day : Int32} : lnR (beginS S a mk key day) a pa pt (aAdd M n mk key day) n 0 := by
  refine ⟨?_, ?_, ?_, fun k hk => absurd hk (Nat.not_lt_zero k)⟩
  · unfold beginS aAdd
    simp only [tF_uF, u2_at']
    simp
  · unfold beginS aAdd
    simp only [tF_uF, u2_at']
    simp [nI_0]
  · unfold beginS aAdd
    simp only [tF_uF, u2_at']
    simp
theorem cC_append {S : hS} {h bk ca sa : Nat} {ad pa : Nat → Nat} {sc : Nat → Int32} {M : Nat → Nat → Int32} {n nc ns : Nat} {mk key day : Int32} (hG : cG S h bk ca sa ad pa) (hC : cC S h ca sa ad pa sc M n nc ns) (hn : n < 40) :
    cC (appS S h (ad n) n mk key day) h ca sa ad pa (scN sc (n + 1)) (aAdd M n mk key day) (n + 1) nc ns := by
  have hcl := clF_appS S h (ad n) n mk key day
  refine ⟨⟨appS_41, va_up_self _ _ _, hn⟩, cL_to n hC.2.1 (fun i h1 h2 => by omega) (fun i h1 h2 x h3 h4 => appS_ne (fun z => h2 (hG.2.2.2.2.2.1 i n (by omega) hn z)) (by omega)) (fun a ha => ⟨hcl.1 a 2 ha, fun x h3 h4 => appS_ge (by omega) (by omega)⟩) (fun _ _ _ _ _ => by rw [sB_appS]) (fun i hi => ⟨fun f _ _ => aAdd_ne hi f, fun f k hf _ _ => aAdd_ge hf⟩) (fun _ => ⟨fun _ => 0, 0, lnR_begin⟩),
    cX_to hC.2.2 hcl.1 (fun x a h3 _ => appS_ge (by omega) (by omega)) (fun x h3 h4 => appS_ge (by omega) (by omega)) (fun _ _ => by rw [sB_appS]) (fun _ _ => by rw [sB_appS]) (fun x hx => va_up_ne _ _ hx) (fun f i hf => aAdd_ge (by omega))⟩

