/-! THE LAW'S OWN WALK: what its cases share -/
/-- a contract may say less -/
theorem hMet.mono {l : Launch} {y : MethodName} {ws : List Cond} {rm : Room} {g : hG} {X : va_W} {S : hS} {av : List Value} {post post' : Option Value → hS → Prop} (h : hMet l y ws rm g X S av post) (hp : ∀ v S', post v S' → post' v S') : hMet l y ws rm g X S av post' := by
  intro p e ha hc hk s m args below hf hpre hv hfree
  obtain ⟨k, o, h1, h2, h3, ⟨⟨v, S', e1, e2, e3⟩, h5⟩, h6⟩ := h p e ha hc hk s m args below hf hpre hv hfree
  exact ⟨k, o, h1, h2, h3, ⟨⟨v, S', e1, hp v S' e2, e3⟩, h5⟩, h6⟩
def bz (x : Int32) : Int32 := if x = 0 then 0 else 1
theorem bz_b (x : Int32) : isB (bz x) := by
  unfold bz isB
  by_cases h : x = 0
  · rw [if_pos h]; exact Or.inl rfl
  · rw [if_neg h]; exact Or.inr rfl
theorem bz_0 {x : Int32} (h : x = 0) : bz x = 0 := if_pos h
theorem bz_1 {x : Int32} (h : ¬ x = 0) : bz x = 1 := if_neg h
theorem lw_b1 {k a N : Nat} (h : a ≤ N) : k + a ≤ k + N := by omega
theorem lw_b2 {k a b N : Nat} (h : a + b ≤ N) : k + a + b ≤ k + N := by omega
theorem lw_b3 {k a b c N : Nat} (h : a + b + c ≤ N) : k + a + b + c ≤ k + N := by omega
section HLawK
variable {p : Program} {l : Launch} {e : Env} {R : Room} {s : State} {m : MethodId} {args : Array Value} {below : List Frame} {meth : Method} {c : Code} {nL : Nat} {g : hG} {X : va_W} {Q : State → Prop} {S : hS} {cells slots : Nat} {lv : List (Nat × Value)} {pc : Nat} {st : List Value} {cc : ByteArray} {Ts : List Cond} {own : String}
/-- x != 0 as a boolean -/
theorem q_bz (F : hF p l s m args meth c cc nL Ts own g) {x : Int32} {off off2 : Int} (t0 : Nat) (d1 : decode cc pc = .ok (.ifCond .eq off, 3)) (h1 : (pc : Int) + off = (t0 : Int)) (d2 : decode cc (pc + 3) = .ok (.iconst 1, 1)) (d3 : decode cc (pc + 3 + 1) = .ok (.goto off2, 3)) (h2 : ((pc + 3 + 1 : Nat) : Int) + off2 = ((t0 + 1 : Nat) : Int)) (d4 : decode cc t0 = .ok (.iconst 0, 1))
    (kk : V p l e R s m args below meth c nL g X Q S cells slots lv (t0 + 1) (.int (bz x) :: st)) : V p l e R s m args below meth c nL g X Q S cells slots lv pc (.int x :: st) := by
  refine q_if_eq F t0 d1 h1 (fun h => ?_) (fun h => ?_)
  · exact q_iconst F d4 hc_0 (q_top kk (congrArg Value.int (bz_0 h).symm))
  · exact q_iconst F d2 hc_1 (q_goto F (t0 + 1) d3 h2 (q_top kk (congrArg Value.int (bz_1 h).symm)))
/-- a boolean as a long -/
theorem q_bl (F : hF p l s m args meth c cc nL Ts own g) {x : Int32} {off off2 : Int} (t0 : Nat) (d1 : decode cc pc = .ok (.ifCond .eq off, 3)) (h1 : (pc : Int) + off = (t0 : Int)) (d2 : decode cc (pc + 3) = .ok (.lconst 1, 1)) (d3 : decode cc (pc + 3 + 1) = .ok (.goto off2, 3)) (h2 : ((pc + 3 + 1 : Nat) : Int) + off2 = ((t0 + 1 : Nat) : Int)) (d4 : decode cc t0 = .ok (.lconst 0, 1))
    (kk : V p l e R s m args below meth c nL g X Q S cells slots lv (t0 + 1) (.long (if x = 0 then (0 : Int64) else 1) :: st)) : V p l e R s m args below meth c nL g X Q S cells slots lv pc (.int x :: st) := by
  refine q_if_eq F t0 d1 h1 (fun h => ?_) (fun h => ?_)
  · exact q_lconst (v := 0) F d4 (by decide) (q_top kk (congrArg Value.long (if_pos h).symm))
  · exact q_lconst (v := 1) F d2 (by decide) (q_goto F (t0 + 1) d3 h2 (q_top kk (congrArg Value.long (if_neg h).symm)))
end HLawK
theorem c_Y_judge_n {l : Launch} {g : hG} {X : va_W} {S : hS} {md : Nat} {ar : Nat → Nat} {sc : Nat → Int32} {M : Nat → Nat → Int32} (hM : mS S md ar sc M) {n : Nat} (hn : sc 4 = nI n) (hn40 : n ≤ 40) (hsz : ∀ i, i < n → ∃ k, k ≤ 4 ∧ M 12 i = nI k) {ns : Nat} (hs : sc 25 = nI ns) (hs20 : ns ≤ 20) {nc : Nat} (hc : sc 17 = nI nc) (hc20 : nc ≤ 20) {name port key : Int32} : hMet l yX5_judge wsX5_judge rm_X5_judge g X S [.ref md, .int name, .int port, .int key, .int (-1)] (pGI (fun v S' => mdF S S' ∧ (((okNP name port && okK key) = false ∧ mS S' md ar (va_up sc 0 2) M) ∨ ((okNP name port && okK key) = true ∧ v = (jg (sc 1) M n ns name port key none) ∧ mS S' md ar (va_up sc 0 0) (M))))) := by
  have hok : okC (-1) nc = true := by unfold okC; rw [decide_eq_true rfl, Bool.true_or]
  cases hB : (okNP name port && okK key) with
  | false => exact hMet.mono (c_X5_judge_1 hM hc hc20 hok hB) (fun v S' h => by obtain ⟨r, e1, e2, e3, e4⟩ := h; exact ⟨r, e1, e4, Or.inl ⟨rfl, e3⟩⟩)
  | true => exact hMet.mono (c_X5_judge_n hM hn hn40 hsz hs hs20 hc hc20 hB) (fun v S' h => by obtain ⟨r, e1, e2, e3, e4⟩ := h; exact ⟨r, e1, e4, Or.inr ⟨rfl, e2, e3⟩⟩)
theorem c_Y_judge_c {l : Launch} {g : hG} {X : va_W} {S : hS} {md : Nat} {ar : Nat → Nat} {sc : Nat → Int32} {M : Nat → Nat → Int32} (hM : mS S md ar sc M) {n : Nat} (hn : sc 4 = nI n) (hn40 : n ≤ 40) (hsz : ∀ i, i < n → ∃ k, k ≤ 4 ∧ M 12 i = nI k) {ns : Nat} (hs : sc 25 = nI ns) (hs20 : ns ≤ 20) {nc : Nat} (hc : sc 17 = nI nc) (hc20 : nc ≤ 20) {name port key : Int32} {ct : Int32} (hi : ¬ ct = -1) : hMet l yX5_judge wsX5_judge rm_X5_judge g X S [.ref md, .int name, .int port, .int key, .int ct] (pGI (fun v S' => mdF S S' ∧ ((inL ct nc = false ∧ mS S' md ar (va_up sc 0 1) M) ∨ (inL ct nc = true ∧ (okNP name port && okK key) = false ∧ mS S' md ar (va_up sc 0 2) M) ∨ (inL ct nc = true ∧ (okNP name port && okK key) = true ∧ v = (jg (sc 1) M n ns name port key (some ct.toNatClampNeg)) ∧ mS S' md ar (va_up sc 0 0) (M))))) := by
  have hok : okC ct nc = inL ct nc := by unfold okC; rw [decide_eq_false hi, Bool.false_or]
  cases hA : inL ct nc with
  | false => exact hMet.mono (c_X5_judge_0 hM hc hc20 (hok.trans hA)) (fun v S' h => by obtain ⟨r, e1, e2, e3, e4⟩ := h; exact ⟨r, e1, e4, Or.inl ⟨rfl, e3⟩⟩)
  | true =>
    cases hB : (okNP name port && okK key) with
    | false => exact hMet.mono (c_X5_judge_1 hM hc hc20 (hok.trans hA) hB) (fun v S' h => by obtain ⟨r, e1, e2, e3, e4⟩ := h; exact ⟨r, e1, e4, Or.inr (Or.inl ⟨rfl, rfl, e3⟩)⟩)
    | true =>
      obtain ⟨ci, hci, rfl⟩ := inL_get hA (by omega)
      rw [nI_clamp (by omega)]
      exact hMet.mono (c_X5_judge_c hM hn hn40 hsz hs hs20 hc hc20 hB hci) (fun v S' h => by obtain ⟨r, e1, e2, e3, e4⟩ := h; exact ⟨r, e1, e4, Or.inr (Or.inr ⟨rfl, rfl, e2, e3⟩)⟩)
theorem c_Y_answer_n {l : Launch} {g : hG} {X : va_W} {S : hS} {md : Nat} {ar : Nat → Nat} {sc : Nat → Int32} {M : Nat → Nat → Int32} (hM : mS S md ar sc M) {n : Nat} (hn : sc 4 = nI n) (hn40 : n ≤ 40) (hsz : ∀ i, i < n → ∃ k, k ≤ 4 ∧ M 12 i = nI k) {ns : Nat} (hs : sc 25 = nI ns) (hs20 : ns ≤ 20) {nc : Nat} (hc : sc 17 = nI nc) (hc20 : nc ≤ 20) {name port key : Int32} : hMet l yX5_answer wsX5_answer rm_X5_answer g X S [.ref md, .int name, .int port, .int key, .int (-1)] (pGI (fun v S' => mdF S S' ∧ (((okNP name port && okK key) = false ∧ mS S' md ar (va_up sc 0 2) M) ∨ ((okNP name port && okK key) = true ∧ v = (jg (sc 1) M n ns name port key none) ∧ mS S' md ar (scN (aW (va_up sc 0 0) (jg (sc 1) M n ns name port key none) name port key) (aAns (va_up sc 0 0) M n (jg (sc 1) M n ns name port key none) key name port key).2) ((aAns (va_up sc 0 0) M n (jg (sc 1) M n ns name port key none) key name port key).1))))) := by
  have hok : okC (-1) nc = true := by unfold okC; rw [decide_eq_true rfl, Bool.true_or]
  cases hB : (okNP name port && okK key) with
  | false => exact hMet.mono (c_X5_answer_1 hM hc hc20 hok hB) (fun v S' h => by obtain ⟨r, e1, e2, e3, e4⟩ := h; exact ⟨r, e1, e4, Or.inl ⟨rfl, e3⟩⟩)
  | true => exact hMet.mono (c_X5_answer_n hM hn hn40 hsz hs hs20 hc hc20 hB) (fun v S' h => by obtain ⟨r, e1, e2, e3, e4⟩ := h; exact ⟨r, e1, e4, Or.inr ⟨rfl, e2, e3⟩⟩)
theorem c_Y_answer_c {l : Launch} {g : hG} {X : va_W} {S : hS} {md : Nat} {ar : Nat → Nat} {sc : Nat → Int32} {M : Nat → Nat → Int32} (hM : mS S md ar sc M) {n : Nat} (hn : sc 4 = nI n) (hn40 : n ≤ 40) (hsz : ∀ i, i < n → ∃ k, k ≤ 4 ∧ M 12 i = nI k) {ns : Nat} (hs : sc 25 = nI ns) (hs20 : ns ≤ 20) {nc : Nat} (hc : sc 17 = nI nc) (hc20 : nc ≤ 20) {name port key : Int32} {ct : Int32} (hi : ¬ ct = -1) : hMet l yX5_answer wsX5_answer rm_X5_answer g X S [.ref md, .int name, .int port, .int key, .int ct] (pGI (fun v S' => mdF S S' ∧ ((inL ct nc = false ∧ mS S' md ar (va_up sc 0 1) M) ∨ (inL ct nc = true ∧ (okNP name port && okK key) = false ∧ mS S' md ar (va_up sc 0 2) M) ∨ (inL ct nc = true ∧ (okNP name port && okK key) = true ∧ v = (jg (sc 1) M n ns name port key (some ct.toNatClampNeg)) ∧ mS S' md ar (scN (aW (va_up sc 0 0) (jg (sc 1) M n ns name port key (some ct.toNatClampNeg)) name port key) (aAns (va_up sc 0 0) M n (jg (sc 1) M n ns name port key (some ct.toNatClampNeg)) (M 18 ct.toNatClampNeg) name port key).2) ((aAns (va_up sc 0 0) M n (jg (sc 1) M n ns name port key (some ct.toNatClampNeg)) (M 18 ct.toNatClampNeg) name port key).1))))) := by
  have hok : okC ct nc = inL ct nc := by unfold okC; rw [decide_eq_false hi, Bool.false_or]
  cases hA : inL ct nc with
  | false => exact hMet.mono (c_X5_answer_0 hM hc hc20 (hok.trans hA)) (fun v S' h => by obtain ⟨r, e1, e2, e3, e4⟩ := h; exact ⟨r, e1, e4, Or.inl ⟨rfl, e3⟩⟩)
  | true =>
    cases hB : (okNP name port && okK key) with
    | false => exact hMet.mono (c_X5_answer_1 hM hc hc20 (hok.trans hA) hB) (fun v S' h => by obtain ⟨r, e1, e2, e3, e4⟩ := h; exact ⟨r, e1, e4, Or.inr (Or.inl ⟨rfl, rfl, e3⟩)⟩)
    | true =>
      obtain ⟨ci, hci, rfl⟩ := inL_get hA (by omega)
      rw [nI_clamp (by omega)]
      exact hMet.mono (c_X5_answer_c hM hn hn40 hsz hs hs20 hc hc20 hB hci) (fun v S' h => by obtain ⟨r, e1, e2, e3, e4⟩ := h; exact ⟨r, e1, e4, Or.inr (Or.inr ⟨rfl, rfl, e2, e3⟩)⟩)
