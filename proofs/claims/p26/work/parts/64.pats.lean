/-! begun with rows of laws/BITS.to-paste: lN under shifts and or -/
theorem wb_tb (n : Nat) : (lN n).toBitVec = BitVec.ofNat 64 n := rfl
theorem wb_inj {a b : Int64} (h : a.toBitVec = b.toBitVec) : a = b := Int64.toBitVec_inj.mp h
theorem wb_c : ∀ k, k < 64 → ((nI k).toInt64 &&& 63) = lN k := by decide +kernel
theorem wb_sm : ∀ k, k < 64 → (BitVec.ofNat 64 k).smod 64 = BitVec.ofNat 64 k := by decide +kernel
theorem wb_shl (n : Nat) {k : Nat} (hk : k < 64) : lN n <<< ((nI k).toInt64 &&& 63) = lN (n * 2 ^ k) := by
  rw [wb_c k hk]
  apply wb_inj
  rw [Int64.toBitVec_shiftLeft, wb_tb, wb_tb, wb_tb, wb_sm k hk]
  apply BitVec.eq_of_toNat_eq
  rw [BitVec.shiftLeft_eq', BitVec.toNat_shiftLeft, BitVec.toNat_ofNat, BitVec.toNat_ofNat, BitVec.toNat_ofNat, Nat.mod_eq_of_lt (show k < 2 ^ 64 by omega), Nat.shiftLeft_eq, Nat.mul_mod, Nat.mod_mod, ← Nat.mul_mod]
theorem u_tn {n : Nat} (h : n < 2 ^ 64) : (UInt64.ofNat n).toNat = n := Nat.mod_eq_of_lt h
theorem g_and {a b c : Nat} (ha : a < 2 ^ 64) (hb : b < 2 ^ 64) (hc : a &&& b = c) : lN a &&& lN b = lN c := by
  subst hc
  have h : UInt64.ofNat a &&& UInt64.ofNat b = UInt64.ofNat (a &&& b) := UInt64.toNat_inj.mp (by rw [UInt64.toNat_and, u_tn ha, u_tn hb, u_tn (Nat.and_lt_two_pow a hb)])
  have h2 := congrArg UInt64.toInt64 h
  exact h2
theorem g_and1 {a : Nat} (ha : a < 2 ^ 64) : lN a &&& 1 = lN (a % 2) := g_and (b := 1) ha (by decide) (Nat.and_two_pow_sub_one_eq_mod a 1)
theorem g_or {k p a b : Nat} (hp : 2 ^ k = p) (ha : a < p) (h : b * p + a < 2 ^ 64) : lN (b * p) ||| lN a = lN (b * p + a) := by
  subst hp
  have h1 : b * 2 ^ k ||| a = b * 2 ^ k + a := by rw [← Nat.shiftLeft_eq, Nat.shiftLeft_add_eq_or_of_lt ha]
  have h3 : UInt64.ofNat (b * 2 ^ k) ||| UInt64.ofNat a = UInt64.ofNat (b * 2 ^ k + a) := UInt64.toNat_inj.mp (by rw [UInt64.toNat_or, u_tn (by omega), u_tn (by omega), u_tn h, h1])
  have h2 := congrArg UInt64.toInt64 h3
  exact h2
theorem g_or' {k p a b : Nat} (hp : 2 ^ k = p) (ha : a < p) (h : a + b * p < 2 ^ 64) : lN a ||| lN (b * p) = lN (a + b * p) := by
  rw [Int64.or_comm, g_or hp ha (by omega), Nat.add_comm]
theorem pf_lI {a : Nat} (h : a < 2 ^ 63) : (lN a).toInt = (a : Int) := lg_ofNat_toInt h
theorem pf_shr {a d : Nat} {D : Int64} (hD : (D.toBitVec.smod 64).toNat = d) (h : a < 2 ^ 62) : lN a >>> D = lN (a / 2 ^ d) := by
  have hd : a / 2 ^ d ≤ a := Nat.div_le_self _ _
  apply Int64.toInt_inj.mp
  have e : (lN a >>> D).toInt = (lN a).toInt >>> d := by
    rw [← hD]
    exact BitVec.toInt_sshiftRight ..
  rw [e, Int.shiftRight_eq_div_pow, pf_lI (by omega), pf_lI (by omega)]
  rfl
theorem lo_nat {f : Nat → Bool} : ∀ n, n ≤ 60 → ∃ x, x < 2 ^ n ∧ lo f n = lN x := by
  intro n
  induction n with
  | zero => exact fun _ => ⟨0, by decide, rfl⟩
  | succ n ih =>
    intro hn
    obtain ⟨x, hx, e⟩ := ih (by omega)
    have hp : 2 ^ (n + 1) = 2 ^ n + 2 ^ n := by rw [Nat.pow_succ]; omega
    rw [lo]
    cases hf : f n with
    | false => exact ⟨x, by omega, by rw [e]; exact Int64.or_zero⟩
    | true =>
      have h60 : 2 ^ (n + 1) ≤ 2 ^ 60 := Nat.pow_le_pow_right (by decide) hn
      refine ⟨x + 1 * 2 ^ n, by omega, ?_⟩
      rw [e, if_pos rfl, show (1 : Int64) = lN 1 from rfl, wb_shl 1 (by omega), g_or' (k := n) rfl hx (by omega)]
theorem bit_last {f : Nat → Bool} {n : Nat} (hf : f n = true) (hn : n < 40) : (lo f (n + 1) >>> ((nI n).toInt64 &&& 63)) &&& 1 = 1 := by
  obtain ⟨x, hx, e⟩ := lo_nat (f := f) n (by omega)
  have h60 : 2 ^ n ≤ 2 ^ 60 := Nat.pow_le_pow_right (by decide) (by omega)
  have hp : 0 < 2 ^ n := Nat.two_pow_pos n
  rw [lo, hf, if_pos rfl, e, wb_c n (by omega)]
  have e1 : (1 : Int64) <<< lN n = lN (1 * 2 ^ n) := by rw [← wb_c n (by omega)]; exact wb_shl 1 (by omega)
  rw [e1, g_or' (k := n) rfl hx (by omega), pf_shr (d := n) ?_ (by omega)]
  · have e2 : (x + 1 * 2 ^ n) / 2 ^ n = 1 := by
      rw [Nat.add_mul_div_right _ _ hp, Nat.div_eq_of_lt hx]
    rw [e2]; rfl
  · show (BitVec.smod (BitVec.ofNat 64 n) 64).toNat = n
    rw [wb_sm n (by omega), BitVec.toNat_ofNat, Nat.mod_eq_of_lt (by omega)]
/-! a line's patterns: those that allow, those that deny -/
def acN (M : Nat → Nat → Int32) (i : Nat) (a p : Int32) : Bool := anyN (fun k => ft M i a p k && !dn M i k) (sz M i)
def deN (M : Nat → Nat → Int32) (i : Nat) (a p : Int32) : Bool := anyN (fun k => ft M i a p k && dn M i k) (sz M i)
def lP (M : Nat → Nat → Int32) (i k : Nat) (Ac De : Int32 → Int32 → Bool) : Prop := M 9 i = -1 ∧ M 12 i = nI k ∧ k ≤ 4 ∧ ∀ a p, acN M i a p = Ac a p ∧ deN M i a p = De a p
section HPats
variable {M : Nat → Nat → Int32} {i k : Nat} {Ac De : Int32 → Int32 → Bool}
theorem lP_sz (h : lP M i k Ac De) : sz M i = k := by
  unfold sz
  rw [h.2.1]
  exact nI_clamp (by have := h.2.2.1; omega)
theorem lP_mt (h : lP M i k Ac De) (a p : Int32) : mt M i a p = (Ac a p && !De a p) := by
  rw [← (h.2.2.2 a p).1, ← (h.2.2.2 a p).2]
  unfold mt
  rw [if_pos h.1]
  rfl
theorem lP_ok (h : lP M i k Ac De) (hk : k < 4) : okA M i = true := by
  unfold okA
  rw [decide_eq_true h.1, decide_eq_true (by rw [lP_sz h]; exact hk)]
  rfl
theorem lP_0 {n : Nat} {mk key day : Int32} : lP (aAdd M n mk key day) n 0 (fun _ _ => false) (fun _ _ => false) := by
  have e9 : aAdd M n mk key day 9 n = -1 := by unfold aAdd; rw [u2_ne1 (by decide), u2_eq]
  have e12 : aAdd M n mk key day 12 n = 0 := by unfold aAdd; rw [u2_eq]
  have es : sz (aAdd M n mk key day) n = 0 := by unfold sz; rw [e12]; rfl
  refine ⟨e9, e12, by decide, fun a p => ?_⟩
  unfold acN deN
  rw [es]
  exact ⟨rfl, rfl⟩
theorem ft_lt {nm pl pt den a p : Int32} {j : Nat} (hj : j < k) : ft (aPat M i k nm pl pt den) i a p j = ft M i a p j := by
  unfold ft
  rw [aPat_p (by decide) (by omega), aPat_p (by decide) (by omega), aPat_p (by decide) (by omega)]
theorem dn_lt {nm pl pt den : Int32} {j : Nat} (hj : j < k) : dn (aPat M i k nm pl pt den) i j = dn M i j := by
  unfold dn
  rw [aPat_p (by decide) (by omega)]
theorem ft_at {nm pl pt den a p : Int32} : ft (aPat M i k nm pl pt den) i a p k = (decide (pt = p) && like pl nm a) := by
  unfold ft
  rw [aPat_q.1, aPat_q.2.1, aPat_q.2.2.1]
theorem dn_at {nm pl pt den : Int32} : dn (aPat M i k nm pl pt den) i k = decide (¬ den = 0) := by
  unfold dn
  rw [aPat_q.2.2.2]
theorem lP_pat {nm pl pt den : Int32} (h : lP M i k Ac De) (hk : k < 4) : lP (aPat M i k nm pl pt den) i (k + 1) (fun a p => Ac a p || (decide (pt = p) && like pl nm a && !decide (¬ den = 0))) (fun a p => De a p || (decide (pt = p) && like pl nm a && decide (¬ den = 0))) := by
  have e12 : aPat M i k nm pl pt den 12 i = nI (k + 1) := by rw [aPat_12, if_pos rfl]
  have es : sz (aPat M i k nm pl pt den) i = k + 1 := by unfold sz; rw [e12]; exact nI_clamp (by omega)
  refine ⟨by rw [aPat_lt (by omega)]; exact h.1, e12, by omega, fun a p => ?_⟩
  have h0 := lP_sz h
  obtain ⟨h1, h2⟩ := h.2.2.2 a p
  unfold acN at h1
  unfold deN at h2
  rw [h0] at h1 h2
  unfold acN deN
  rw [es, anyN, anyN, ft_at, dn_at]
  constructor
  · show _ = (Ac a p || (decide (pt = p) && like pl nm a && !decide (¬ den = 0)))
    rw [← h1]
    exact congrArg (fun x => x || _) (anyN_congr (fun j hj => by rw [ft_lt hj, dn_lt hj]))
  · show _ = (De a p || (decide (pt = p) && like pl nm a && decide (¬ den = 0)))
    rw [← h2]
    exact congrArg (fun x => x || _) (anyN_congr (fun j hj => by rw [ft_lt hj, dn_lt hj]))
/-- an allowing one more -/
theorem lP_a {nm pl pt : Int32} (h : lP M i k Ac De) (hk : k < 4) : lP (aPat M i k nm pl pt 0) i (k + 1) (fun a p => Ac a p || (decide (pt = p) && like pl nm a)) De := by
  have H := lP_pat (nm := nm) (pl := pl) (pt := pt) (den := 0) h hk
  refine ⟨H.1, H.2.1, H.2.2.1, fun a p => ?_⟩
  obtain ⟨z1, z2⟩ := H.2.2.2 a p
  rw [z1, z2]
  constructor
  · show (Ac a p || (decide (pt = p) && like pl nm a && true)) = _
    rw [Bool.and_true]
  · show (De a p || (decide (pt = p) && like pl nm a && false)) = _
    rw [Bool.and_false, Bool.or_false]
/-- a denying one more -/
theorem lP_d {nm pl pt : Int32} (h : lP M i k Ac De) (hk : k < 4) : lP (aPat M i k nm pl pt 1) i (k + 1) Ac (fun a p => De a p || (decide (pt = p) && like pl nm a)) := by
  have H := lP_pat (nm := nm) (pl := pl) (pt := pt) (den := 1) h hk
  refine ⟨H.1, H.2.1, H.2.2.1, fun a p => ?_⟩
  obtain ⟨z1, z2⟩ := H.2.2.2 a p
  rw [z1, z2]
  constructor
  · show (Ac a p || (decide (pt = p) && like pl nm a && false)) = _
    rw [Bool.and_false, Bool.or_false]
  · show (De a p || (decide (pt = p) && like pl nm a && true)) = _
    rw [Bool.and_true]
end HPats
theorem lk_self (pl : Int32) : ∀ (n : Nat) (x : Int32), lk pl n x x = true := by
  intro n
  induction n with
  | zero => intro x; rfl
  | succ n ih => intro x; rw [lk_yes1 rfl]; exact ih _
theorem like_self (pl x : Int32) : like pl x x = true := lk_self pl 4 x
theorem lk_zero : ∀ (n : Nat) (x y : Int32), n ≤ 4 → lk 0 n x y = true := by
  intro n
  induction n with
  | zero => intro x y _; rfl
  | succ n ih =>
    intro x y hn
    have e : (((0 : Int32) >>> (nI n &&& 31)) &&& 1) = 0 := by
      rcases (show n = 0 ∨ n = 1 ∨ n = 2 ∨ n = 3 by omega) with rfl | rfl | rfl | rfl <;> decide
    rw [lk, decide_eq_true e, Bool.true_or, Bool.true_and]
    exact ih _ _ (by omega)
theorem like_zero (x y : Int32) : like 0 x y = true := lk_zero 4 x y (Nat.le_refl 4)
theorem dig {x y : Nat} (hx : x < 2 ^ 31) (hy : y < 2 ^ 31) : nI x % 10 = nI y % 10 ↔ x % 10 = y % 10 := by
  rw [show (10 : Int32) = nI 10 from rfl, nI_mod hx (by decide) (by decide), nI_mod hy (by decide) (by decide), nI_eq (by omega) (by omega)]
theorem dv10 {x : Nat} (hx : x < 2 ^ 31) : nI x / 10 = nI (x / 10) := pk_div (d := 10) hx (by decide) (by decide)
theorem lk15_s {n : Nat} (hn : n < 4) (one two : Int32) : lk 15 (n + 1) one two = (decide (one % 10 = two % 10) && lk 15 n (one / 10) (two / 10)) := by
  have e : ¬ (((15 : Int32) >>> (nI n &&& 31)) &&& 1) = 0 := by
    rcases (show n = 0 ∨ n = 1 ∨ n = 2 ∨ n = 3 by omega) with rfl | rfl | rfl | rfl <;> decide
  rw [lk, decide_eq_false e, Bool.false_or]
/-- all four places: the same name -/
theorem like_15 {x y : Nat} (hx : x ≤ 9999) (hy : y ≤ 9999) (h : like 15 (nI x) (nI y) = true) : x = y := by
  unfold like at h
  rw [lk15_s (by decide), lk15_s (by decide), lk15_s (by decide), lk15_s (by decide)] at h
  rw [dv10 (by omega), dv10 (by omega), dv10 (by omega), dv10 (by omega), dv10 (by omega), dv10 (by omega)] at h
  rw [Bool.and_eq_true, Bool.and_eq_true, Bool.and_eq_true, Bool.and_eq_true, decide_eq_true_eq, decide_eq_true_eq, decide_eq_true_eq, decide_eq_true_eq, dig (by omega) (by omega), dig (by omega) (by omega), dig (by omega) (by omega), dig (by omega) (by omega)] at h
  omega
/-! what the law's writers keep -/
theorem aAdd_at {M : Nat → Nat → Int32} {n : Nat} {mk key day : Int32} : aAdd M n mk key day 5 n = key ∧ aAdd M n mk key day 6 n = mk ∧ aAdd M n mk key day 7 n = day ∧ aAdd M n mk key day 8 n = -1 := by
  unfold aAdd
  refine ⟨?_, ?_, ?_, ?_⟩
  · rw [u2_ne1 (by decide), u2_ne1 (by decide), u2_ne1 (by decide), u2_ne1 (by decide), u2_ne1 (by decide), u2_eq]
  · rw [u2_ne1 (by decide), u2_ne1 (by decide), u2_ne1 (by decide), u2_ne1 (by decide), u2_eq]
  · rw [u2_ne1 (by decide), u2_ne1 (by decide), u2_ne1 (by decide), u2_eq]
  · rw [u2_ne1 (by decide), u2_ne1 (by decide), u2_eq]
section HKeep
variable {sc sc' f : Nat → Int32} {M M' : Nat → Nat → Int32} {n nc ns i k : Nat}
theorem lI_add {mk key : Int32} (h : lI sc M n) (hm : mkP mk) (hk : okK key = true) : lI (scN sc (n + 1)) (aAdd M n mk key (sc 1)) (n + 1) := by
  refine ⟨jI_add h.1 hk, by rw [scN_ne (by decide)]; exact h.2.1, fun i hi => ?_⟩
  rw [scN_ne (by decide)]
  unfold lnI
  by_cases hin : i = n
  · subst hin
    obtain ⟨-, e6, e7, e8⟩ := aAdd_at (M := M) (n := i) (mk := mk) (key := key) (day := sc 1)
    rw [e6, e7, e8]
    exact ⟨hm, ⟨h.2.1.1, Int32.le_refl _⟩, by decide⟩
  · rw [aAdd_ne hin, aAdd_ne hin, aAdd_ne hin]
    exact h.2.2 i (by omega)
theorem lI_rows (h : lI sc M n) (hj : jI sc M' n) (h6 : M' 6 = M 6) (h7 : M' 7 = M 7) (h8 : M' 8 = M 8) : lI sc M' n :=
  ⟨hj, h.2.1, fun i hi => by unfold lnI; rw [h6, h7, h8]; exact h.2.2 i hi⟩
theorem lI_pat {nm pl pt den : Int32} (h : lI sc M n) (hD : isB den) : lI sc (aPat M i k nm pl pt den) n :=
  lI_rows h (jI_pat h.1 hD) (by funext x; exact aPat_lt (by omega)) (by funext x; exact aPat_lt (by omega)) (by funext x; exact aPat_lt (by omega))
theorem lI_hash {nm pt salt : Int32} (h : lI sc M n) : lI sc (aHash M i nm pt salt) n :=
  lI_rows h (jI_hash h.1) (by funext x; exact aHash_ge (by omega)) (by funext x; exact aHash_ge (by omega)) (by funext x; exact aHash_ge (by omega))
theorem cI_M (h : cI f sc M n nc ns) (h19 : ∀ i, i < nc → M' 19 i = M 19 i) : cI f sc M' n nc ns :=
  ⟨h.1, h.2.1, h.2.2.1, h.2.2.2.1, h.2.2.2.2.1, h.2.2.2.2.2.1, fun i hi => by rw [h19 i hi]; exact h.2.2.2.2.2.2 i hi⟩
theorem cI_n {n' : Nat} (h : cI f sc M n nc ns) (h19 : ∀ i, i < nc → M' 19 i = M 19 i) : cI (va_up f 1 (nI n')) (scN sc n') M' n' nc ns := by
  obtain ⟨a0, a1, a2, a3, a4, a6, a⟩ := h
  refine ⟨?_, va_up_self _ _ _, ?_, ?_, ?_, ?_, fun i hi => ?_⟩
  · rw [va_up_ne _ _ (by decide), scN_ne (by decide)]; exact a0
  · rw [va_up_ne _ _ (by decide)]; exact a2
  · rw [va_up_ne _ _ (by decide)]; exact a3
  · rw [va_up_ne _ _ (by decide), scN_ne (by decide)]; exact a4
  · rw [va_up_ne _ _ (by decide), scN_ne (by decide)]; exact a6
  · rw [va_up_ne _ _ (by omega), h19 i hi]; exact a i hi
end HKeep
/-- 0 for PLAIN .. by an int -/
def mkN (B : Nat) : Nat := if B % 7 = 0 then 1 else if B % 7 = 1 then 2 else 0
theorem mkN_P (B : Nat) : mkP (nI (mkN B)) := by
  unfold mkN
  split
  · exact Or.inr (Or.inl rfl)
  · split
    · exact Or.inr (Or.inr rfl)
    · exact Or.inl rfl
theorem mkN_le (B : Nat) : mkN B ≤ 2 := by
  unfold mkN
  split
  · decide
  · split <;> decide
theorem m7N {B : Nat} (hB : B < 2 ^ 31) : nI B % 7 = nI (B % 7) := nI_mod (d := 7) hB (by decide) (by decide)
theorem mkN_0 {B : Nat} (hB : B < 2 ^ 31) (h : nI B % 7 = 0) : (1 : Int32) = nI (mkN B) := by
  rw [m7N hB, show (0 : Int32) = nI 0 from rfl, nI_eq (by omega) (by decide)] at h
  unfold mkN; rw [if_pos h]; rfl
theorem mkN_1 {B : Nat} (hB : B < 2 ^ 31) (h : ¬ nI B % 7 = 0) (h2 : nI B % 7 = 1) : (2 : Int32) = nI (mkN B) := by
  rw [m7N hB, show (0 : Int32) = nI 0 from rfl, nI_eq (by omega) (by decide)] at h
  rw [m7N hB, show (1 : Int32) = nI 1 from rfl, nI_eq (by omega) (by decide)] at h2
  unfold mkN; rw [if_neg h, if_pos h2]; rfl
theorem mkN_2 {B : Nat} (hB : B < 2 ^ 31) (h : ¬ nI B % 7 = 0) (h2 : ¬ nI B % 7 = 1) : (0 : Int32) = nI (mkN B) := by
  rw [m7N hB, show (0 : Int32) = nI 0 from rfl, nI_eq (by omega) (by decide)] at h
  rw [m7N hB, show (1 : Int32) = nI 1 from rfl, nI_eq (by omega) (by decide)] at h2
  unfold mkN; rw [if_neg h, if_neg h2]; rfl
theorem m_0 {A d : Nat} (hA1 : A < 2 ^ 31) (hd : 0 < d) (hd2 : d < 2 ^ 31) : nI A % nI d = 0 ↔ A % d = 0 := by
  rw [nI_mod hA1 hd hd2, show (0 : Int32) = nI 0 from rfl, nI_eq (by have := Nat.mod_lt A hd; omega) (by decide)]

