/-! THE LAW OF p26: its int[] in the pool, calls that don't throw, rows -/
theorem hMet.mono {l : Launch} {y : MethodName} {ws : List Cond} {rm : Room} {g : hG} {X : va_W} {S : hS} {av : List Value} {post post' : Option Value → hS → Prop} (h : hMet l y ws rm g X S av post) (hp : ∀ v S', post v S' → post' v S') : hMet l y ws rm g X S av post' := by
  intro p e ha hc hk s m args below hf hpre hv hfree
  obtain ⟨k, o, h1, h2, h3, ⟨⟨v, S', e1, e2, e3⟩, h5⟩, h6⟩ := h p e ha hc hk s m args below hf hpre hv hfree
  exact ⟨k, o, h1, h2, h3, ⟨⟨v, S', e1, hp v S' e2, e3⟩, h5⟩, h6⟩
/-- a call that may throw, where it doesn't -/
theorem hMetX.sure {l : Launch} {y : MethodName} {ws : List Cond} {rm : Room} {g : hG} {X : va_W} {S : hS} {av : List Value} {post post' : Option Value → hS → Prop} {px : String → hS → Prop} (h : hMetX l y ws rm g X S av post px) (hx : ∀ E S', px E S' → False) (hp : ∀ v S', post v S' → post' v S') : hMet l y ws rm g X S av post' := by
  intro p e ha hc hk s m args below hf hpre hv hfree
  obtain ⟨k, o, h1, h2, h3, hq⟩ := h p e ha hc hk s m args below hf hpre hv hfree
  rcases hq with ⟨⟨⟨v, S', e1, e2, e3⟩, h5⟩, h6⟩ | ⟨q, -, E, ce, L, ⟨S', hpx, -⟩, -⟩
  · exact ⟨k, o, h1, h2, h3, ⟨⟨v, S', e1, hp v S' e2, e3⟩, h5⟩, h6⟩
  · exact (hx E S' hpx).elim
theorem pe1n {a : Bool} {E1 E : String} (h : a = true) (z : pe1 a E1 E) : False := by
  rw [h] at z; exact absurd z.1 (by decide)
theorem pe2n {a b : Bool} {E1 E2 E : String} (h : a = true) (h2 : b = true) (z : pe2 a b E1 E2 E) : False := by
  subst h; subst h2
  rcases z with ⟨z, -⟩ | ⟨-, z, -⟩ <;> exact absurd z (by decide)
theorem pe3n {a b c : Bool} {E1 E2 E3 E : String} (h : a = true) (h2 : b = true) (h3 : c = true) (z : pe3 a b c E1 E2 E3 E) : False := by
  subst h; subst h2; subst h3
  rcases z with ⟨z, -⟩ | ⟨-, z, -⟩ | ⟨-, -, z, -⟩ <;> exact absurd z (by decide)
theorem lw_b0 {k N : Nat} : k ≤ k + N := Nat.le_add_right k N
theorem lw_b1 {k a N : Nat} (h : a ≤ N) : k + a ≤ k + N := by omega
theorem lw_b2 {k a b N : Nat} (h : a + b ≤ N) : k + a + b ≤ k + N := by omega
theorem lw_b3 {k a b c N : Nat} (h : a + b + c ≤ N) : k + a + b + c ≤ k + N := by omega
theorem lw_b4 {k a b c d N : Nat} (h : a + b + c + d ≤ N) : k + a + b + c + d ≤ k + N := by omega
theorem lw_b5 {k a b c d e N : Nat} (h : a + b + c + d + e ≤ N) : k + a + b + c + d + e ≤ k + N := by omega
theorem lw_b6 {k a b c d e f N : Nat} (h : a + b + c + d + e + f ≤ N) : k + a + b + c + d + e + f ≤ k + N := by omega
theorem lw_b7 {k a b c d e f i N : Nat} (h : a + b + c + d + e + f + i ≤ N) : k + a + b + c + d + e + f + i ≤ k + N := by omega
/-- the law's int[] -/
def lA (S : hS) (cA : Nat) (f : Nat → Int32) : Prop := isO S cA 6 ∧ sN S cA = 48 ∧ sA S cA = f
theorem lA_cl {S S' : hS} {cA : Nat} {f : Nat → Int32} (h : lA S cA f) (hc : clF S S') : lA S' cA f :=
  ⟨hc.1 _ _ h.1, by rw [(hc.2.2 _ h.1.1).1]; exact h.2.1, by rw [(hc.2.2 _ h.1.1).2]; exact h.2.2⟩
theorem lA_st {S : hS} {cA : Nat} {f : Nat → Int32} (h : lA S cA f) (j : Nat) (v : Int32) : lA (uA S cA j v) cA (va_up f j v) :=
  ⟨h.1, h.2.1, by show u2 (sA S) cA j v cA = _; rw [u2_row, h.2.2]⟩
/-- the book and the law's int[] -/
def lB (S : hS) (h cA : Nat) (f : Nat → Int32) (bk ca sa : Nat) (ad pa : Nat → Nat) (sc : Nat → Int32) (M : Nat → Nat → Int32) (n nc ns : Nat) : Prop := cG S h bk ca sa ad pa ∧ cC S h ca sa ad pa sc M n nc ns ∧ lA S cA f
section HLB
variable {l : Launch} {g : hG} {X : va_W} {S S' : hS} {h cA bk ca sa : Nat} {f : Nat → Int32} {ad ad' pa : Nat → Nat} {sc sc' : Nat → Int32} {M M' : Nat → Nat → Int32} {n n' nc nc' ns ns' : Nat}
theorem lB_st (hB : lB S h cA f bk ca sa ad pa sc M n nc ns) (j : Nat) (v : Int32) : lB (uA S cA j v) h cA (va_up f j v) bk ca sa ad pa sc M n nc ns := ⟨hB.1, hB.2.1, lA_st hB.2.2 j v⟩
theorem lB_cl (hB : lB S h cA f bk ca sa ad pa sc M n nc ns) (hP : cP S S' h bk ca sa ad' pa sc' M' n' nc' ns') : lB S' h cA f bk ca sa ad' pa sc' M' n' nc' ns' := ⟨hP.1, hP.2.1, lA_cl hB.2.2 hP.2.2⟩
theorem lB_n (hB : lB S h cA f bk ca sa ad pa sc M n nc ns) : n ≤ 40 := hB.2.1.1.2.2
theorem lB_nc (hB : lB S h cA f bk ca sa ad pa sc M n nc ns) : nc ≤ 20 := hB.2.1.2.2.1.2.2
theorem lB_ns (hB : lB S h cA f bk ca sa ad pa sc M n nc ns) : ns ≤ 20 := hB.2.1.2.2.2.1.2.2
theorem lB_o (hB : lB S h cA f bk ca sa ad pa sc M n nc ns) : isO S h 4 := hB.1.1
/-! reads -/
theorem n_day (hB : lB S h cA f bk ca sa ad pa sc M n nc ns) : hMet l yX4_day wsX4_day rm_X4_day g X S [.ref h] (pI (sc 1) S) := by
  have e : sF S 46 h = sc 1 := hB.2.1.2.2.2.2.1.1
  rw [← e]; exact c_X4_day hB.1.1
theorem n_lines (hB : lB S h cA f bk ca sa ad pa sc M n nc ns) : hMet l yX4_lines wsX4_lines rm_X4_lines g X S [.ref h] (pI (nI n) S) := by
  have e : sF S 41 h = nI n := hB.2.1.1.1
  rw [← e]; exact c_X4_lines hB.1.1
theorem n_waiting (hB : lB S h cA f bk ca sa ad pa sc M n nc ns) : hMet l yX4_waiting wsX4_waiting rm_X4_waiting g X S [.ref h] (pI (sc 29) S) := by
  have e : sF S 51 h = sc 29 := hB.2.1.2.2.2.2.2.1.1
  rw [← e]; exact c_X4_waiting hB.1.1
theorem n_keyOf (hst : l.stackTraces = false) (hB : lB S h cA f bk ca sa ad pa sc M n nc ns) {j : Nat} (hj : j < n) : hMet l yX4_keyOf wsX4_keyOf rm_X4_keyOf g X S [.ref h, .int (nI j)] (pI (1000 * M 6 j + M 5 j) S) := by
  have hn := lB_n hB
  refine hMetX.sure (c_X4_keyOf hst hB.1 hB.2.1) (fun E S' z => pe1n (inL_nI hj (by omega)) z.2) (fun v S' z => ?_)
  rw [nI_clamp (by omega)] at z
  exact ⟨z.1, z.2.1⟩
theorem n_seen (hst : l.stackTraces = false) (hB : lB S h cA f bk ca sa ad pa sc M n nc ns) {j : Nat} (hj : j < n) : hMet l yX4_seen wsX4_seen rm_X4_seen g X S [.ref h, .int (nI j)] (pI (M 7 j) S) := by
  have hn := lB_n hB
  refine hMetX.sure (c_X4_seen hst hB.1 hB.2.1) (fun E S' z => pe1n (inL_nI hj (by omega)) z.2) (fun v S' z => ?_)
  rw [nI_clamp (by omega)] at z
  exact ⟨z.1, z.2.1⟩
theorem n_end (hst : l.stackTraces = false) (hB : lB S h cA f bk ca sa ad pa sc M n nc ns) {j : Nat} (hj : j < n) : hMet l yX4_end wsX4_end rm_X4_end g X S [.ref h, .int (nI j)] (pI (M 8 j) S) := by
  have hn := lB_n hB
  refine hMetX.sure (c_X4_end hst hB.1 hB.2.1) (fun E S' z => pe1n (inL_nI hj (by omega)) z.2) (fun v S' z => ?_)
  rw [nI_clamp (by omega)] at z
  exact ⟨z.1, z.2.1⟩
theorem n_matches (hst : l.stackTraces = false) (hB : lB S h cA f bk ca sa ad pa sc M n nc ns) {j : Nat} (hj : j < n) {name port : Int32} (hNP : okNP name port = true) : hMet l yX4_matches wsX4_matches rm_X4_matches g X S [.ref h, .int (nI j), .int name, .int port] (pI (b2 (mt M j name port)) S) := by
  have hn := lB_n hB
  refine hMetX.sure (c_X4_matches hst hB.1 hB.2.1) (fun E S' z => pe2n (inL_nI hj (by omega)) hNP z.2) (fun v S' z => ?_)
  rw [nI_clamp (by omega)] at z
  exact ⟨z.1, z.2.1⟩
theorem n_find (hst : l.stackTraces = false) (hB : lB S h cA f bk ca sa ad pa sc M n nc ns) {name port : Int32} (hNP : okNP name port = true) : hMet l yX4_find wsX4_find rm_X4_find g X S [.ref h, .int name, .int port] (pI (fd (fun i => mt M i name port) n n) S) :=
  hMetX.sure (c_X4_find hst hB.1 hB.2.1) (fun E S' z => pe1n hNP z.2) (fun v S' z => ⟨z.1, z.2.1⟩)
theorem n_linesOf (hst : l.stackTraces = false) (hB : lB S h cA f bk ca sa ad pa sc M n nc ns) {key : Int32} (hK : okK key = true) : hMet l yX4_linesOf wsX4_linesOf rm_X4_linesOf g X S [.ref h, .int key] (pL (lo (fun i => decide (M 5 i = key)) n) S) :=
  hMetX.sure (c_X4_linesOf hst hB.1 hB.2.1) (fun E S' z => pe1n hK z.2) (fun v S' z => ⟨z.1, z.2.1⟩)
theorem okNPK {name port key : Int32} (hNP : okNP name port = true) (hK : okK key = true) : (okNP name port && okK key) = true := by rw [hNP, hK]; rfl
theorem n_judgeByReading (hst : l.stackTraces = false) (hB : lB S h cA f bk ca sa ad pa sc M n nc ns) {name port key : Int32} (hNP : okNP name port = true) (hK : okK key = true) : hMet l yX4_judgeByReading wsX4_judgeByReading rm_X4_judgeByReading g X S [.ref h, .int name, .int port, .int key] (pI (jb (sc 1) M name port key (-1) n) S) :=
  hMetX.sure (c_X4_judgeByReading hst hB.1 hB.2.1) (fun E S' z => pe1n (okNPK hNP hK) z.2) (fun v S' z => ⟨z.1, z.2.1⟩)
/-- the judgement with a certificate's number, or none -/
def lJg (day : Int32) (M : Nat → Nat → Int32) (n ns : Nat) (name port key : Int32) (co : Option Nat) : Int32 := match co with
  | none => jb day M name port key (-1) n
  | some c => jo day M n ns name port key c
def lCt (co : Option Nat) : Int32 := match co with
  | none => -1
  | some c => nI c
def lAu (M : Nat → Nat → Int32) (co : Option Nat) : Int32 := match co with
  | none => -1
  | some c => M 18 c
theorem n_judge_n (hst : l.stackTraces = false) (hB : lB S h cA f bk ca sa ad pa sc M n nc ns) {name port key : Int32} (hNP : okNP name port = true) (hK : okK key = true) : hMet l yX4_judge wsX4_judge rm_X4_judge g X S [.ref h, .int name, .int port, .int key, .int (-1)] (pI (jb (sc 1) M name port key (-1) n) S) :=
  hMetX.sure (c_X4_judge_n hst hB.1 hB.2.1) (fun E S' z => pe1n (okNPK hNP hK) z.2) (fun v S' z => ⟨z.1, z.2.1⟩)
theorem n_judge (hst : l.stackTraces = false) (hB : lB S h cA f bk ca sa ad pa sc M n nc ns) {name port key : Int32} (hNP : okNP name port = true) (hK : okK key = true) {co : Option Nat} (hco : ∀ c, co = some c → c < nc) : hMet l yX4_judge wsX4_judge rm_X4_judge g X S [.ref h, .int name, .int port, .int key, .int (lCt co)] (pI (lJg (sc 1) M n ns name port key co) S) := by
  have hnc := lB_nc hB
  cases co with
  | none => exact n_judge_n hst hB hNP hK
  | some c =>
    have hc := hco c rfl
    refine hMetX.sure (c_X4_judge hst hB.1 hB.2.1 (nI_nm1 (by omega))) (fun E S' z => pe2n (inL_nI hc (by omega)) (okNPK hNP hK) z.2) (fun v S' z => ?_)
    have ec : (lCt (some c)).toNatClampNeg = c := nI_clamp (by omega)
    rw [ec] at z
    exact ⟨z.1, z.2.1⟩
/-! writers -/
theorem n_addLine (hst : l.stackTraces = false) (hB : lB S h cA f bk ca sa ad pa sc M n nc ns) {mk key : Int32} (h1 : inR mk 0 2 = true) (h2 : okK key = true) (h3 : n < 40) : hMet l yX4_addLine wsX4_addLine rm_X4_addLine g X S [.ref h, .int mk, .int key] (pGI (fun r S' => r = nI n ∧ lB S' h cA f bk ca sa ad pa (scN sc (n + 1)) (aAdd M n mk key (sc 1)) (n + 1) nc ns)) :=
  hMetX.sure (c_X4_addLine hst hB.1 hB.2.1) (fun E S' z => pe2n (by rw [h1, h2]; rfl) (decide_eq_true h3) z.2) (fun v S' z => by obtain ⟨r, e, -, z2, z3⟩ := z; exact ⟨r, e, z2, lB_cl hB z3⟩)
theorem n_addPattern (hst : l.stackTraces = false) (hB : lB S h cA f bk ca sa ad pa sc M n nc ns) {j : Nat} (hj : j < n) {name places port den : Int32} (hD : isB den) (h1 : okNP name port = true) (h2 : inR places 0 15 = true) (h3 : okA M j = true) : hMet l yX4_addPattern wsX4_addPattern rm_X4_addPattern g X S [.ref h, .int (nI j), .int name, .int places, .int port, .int den] (pGI (fun r S' => r = nI (sz M j + 1) ∧ lB S' h cA f bk ca sa ad pa sc (aPat M j (sz M j) name places port den) n nc ns)) := by
  have hn := lB_n hB
  have e : (nI j).toNatClampNeg = j := nI_clamp (by omega)
  refine hMetX.sure (c_X4_addPattern hst hB.1 hB.2.1 hD) (fun E S' z => pe3n (inL_nI hj (by omega)) (by rw [h1, h2]; rfl) (by rw [e]; exact h3) z.2) (fun v S' z => ?_)
  obtain ⟨r, e1, -, z2, z3⟩ := z
  rw [e] at z2 z3
  exact ⟨r, e1, z2, lB_cl hB z3⟩
theorem n_addHashed (hst : l.stackTraces = false) (hB : lB S h cA f bk ca sa ad pa sc M n nc ns) {mk key name port salt : Int32} (h1 : inR mk 0 2 = true) (h2 : okK key = true) (h3 : okNP name port = true) (h4 : inR salt 0 99 = true) (h5 : n < 40) : hMet l yX4_addHashed wsX4_addHashed rm_X4_addHashed g X S [.ref h, .int mk, .int key, .int name, .int port, .int salt] (pGI (fun r S' => r = nI n ∧ lB S' h cA f bk ca sa ad pa (scN sc (n + 1)) (aHash (aAdd M n mk key (sc 1)) n name port salt) (n + 1) nc ns)) :=
  hMetX.sure (c_X4_addHashed hst hB.1 hB.2.1) (fun E S' z => pe2n (by rw [h1, h2, h3, h4]; rfl) (decide_eq_true h5) z.2) (fun v S' z => by obtain ⟨r, e, -, z2, z3⟩ := z; exact ⟨r, e, z2, lB_cl hB z3⟩)
theorem n_remove (hst : l.stackTraces = false) (hB : lB S h cA f bk ca sa ad pa sc M n nc ns) {j : Nat} (hj : j < n) : hMet l yX4_remove wsX4_remove rm_X4_remove g X S [.ref h, .int (nI j)] (pGI (fun r S' => r = M 5 j ∧ ∃ ad', lB S' h cA f bk ca sa ad' pa (scN sc (n - 1)) (aRem M j n) (n - 1) nc ns)) := by
  have hn := lB_n hB
  refine hMetX.sure (c_X4_remove hst hB.1 hB.2.1) (fun E S' z => pe1n (inL_nI hj (by omega)) z.2) (fun v S' z => ?_)
  rw [nI_clamp (by omega)] at z
  obtain ⟨r, e1, -, z2, ad', z3⟩ := z
  exact ⟨r, e1, z2, ad', lB_cl hB z3⟩
theorem n_certify (hst : l.stackTraces = false) (hB : lB S h cA f bk ca sa ad pa sc M n nc ns) {au key name places serial first last : Int32} (h1 : (okK au && okK key && okN name && inR places 0 15 && inR serial 0 999 && inR first 0 5000 && inR last first 5000) = true) (h2 : nc < 20) : hMet l yX4_certify wsX4_certify rm_X4_certify g X S [.ref h, .int au, .int key, .int name, .int places, .int serial, .int first, .int last] (pGI (fun r S' => r = nI nc ∧ lB S' h cA f bk ca sa ad pa (va_up sc 17 (nI (nc + 1))) (aCert M nc au key name places serial first last) n (nc + 1) ns)) :=
  hMetX.sure (c_X4_certify hst hB.1 hB.2.1) (fun E S' z => pe2n h1 (decide_eq_true h2) z.2) (fun v S' z => by obtain ⟨r, e, -, z2, z3⟩ := z; exact ⟨r, e, z2, lB_cl hB z3⟩)
theorem n_revokeSpan (hst : l.stackTraces = false) (hB : lB S h cA f bk ca sa ad pa sc M n nc ns) {au fr to : Int32} (h1 : (okK au && inR fr 0 999 && inR to fr 999) = true) (h2 : ns < 20) : hMet l yX4_revokeSpan wsX4_revokeSpan rm_X4_revokeSpan g X S [.ref h, .int au, .int fr, .int to] (pGI (fun r S' => r = cntN (rv (aSpan M ns au fr to) (ns + 1)) nc ∧ lB S' h cA f bk ca sa ad pa (va_up sc 25 (nI (ns + 1))) (aSpan M ns au fr to) n nc (ns + 1))) :=
  hMetX.sure (c_X4_revokeSpan hst hB.1 hB.2.1) (fun E S' z => pe2n h1 (decide_eq_true h2) z.2) (fun v S' z => by obtain ⟨r, e, -, z2, z3⟩ := z; exact ⟨r, e, z2, lB_cl hB z3⟩)
theorem n_setFirstSight (hst : l.stackTraces = false) (hB : lB S h cA f bk ca sa ad pa sc M n nc ns) {rule b : Int32} (hD : isB b) (h1 : inR rule 0 2 = true) : hMet l yX4_setFirstSight wsX4_setFirstSight rm_X4_setFirstSight g X S [.ref h, .int rule, .int b] (pGI (fun r S' => r = sc 2 ∧ lB S' h cA f bk ca sa ad pa (aSight sc rule b) M n nc ns)) :=
  hMetX.sure (c_X4_setFirstSight hst hB.1 hB.2.1 hD) (fun E S' z => pe1n h1 z.2) (fun v S' z => by obtain ⟨r, e, -, z2, z3⟩ := z; exact ⟨r, e, z2, lB_cl hB z3⟩)
theorem n_pass (hst : l.stackTraces = false) (hB : lB S h cA f bk ca sa ad pa sc M n nc ns) {days : Int32} (h1 : inR days 1 1000 = true) (h2 : sc 1 + days ≤ 5000) : hMet l yX4_pass wsX4_pass rm_X4_pass g X S [.ref h, .int days] (pGI (fun r S' => r = sc 1 + days ∧ lB S' h cA f bk ca sa ad pa (va_up sc 1 (sc 1 + days)) M n nc ns)) :=
  hMetX.sure (c_X4_pass hst hB.1 hB.2.1) (fun E S' z => pe2n h1 (decide_eq_true h2) z.2) (fun v S' z => by obtain ⟨r, e, -, z2, z3⟩ := z; exact ⟨r, e, z2, lB_cl hB z3⟩)
theorem n_clean (hst : l.stackTraces = false) (hB : lB S h cA f bk ca sa ad pa sc M n nc ns) {days : Int32} (h1 : inR days 1 5000 = true) : hMet l yX4_clean wsX4_clean rm_X4_clean g X S [.ref h, .int days] (pGI (fun r S' => r = nI (n - (cl (sc 1) days n (M, n)).2) ∧ ∃ ad', lB S' h cA f bk ca sa ad' pa (scN sc (cl (sc 1) days n (M, n)).2) (cl (sc 1) days n (M, n)).1 (cl (sc 1) days n (M, n)).2 nc ns)) :=
  hMetX.sure (c_X4_clean hst hB.1 hB.2.1) (fun E S' z => pe1n h1 z.2) (fun v S' z => by obtain ⟨r, e, -, z2, ad', z3⟩ := z; exact ⟨r, e, z2, ad', lB_cl hB z3⟩)
theorem n_turn (hst : l.stackTraces = false) (hB : lB S h cA f bk ca sa ad pa sc M n nc ns) {name port old other days : Int32} (h1 : (okNP name port && okK old && okK other && inR days 0 1000 && !decide (old = other)) = true) (h2 : jb (sc 1) M name port old (-1) n = 2) (h3 : ¬ jb (sc 1) M name port other (-1) n = 0) : hMet l yX4_turn wsX4_turn rm_X4_turn g X S [.ref h, .int name, .int port, .int old, .int other, .int days] (pGI (fun r S' => r = nI ((tl (sc 1) name port old other days (M, n) n).2 - n) ∧ lB S' h cA f bk ca sa ad pa (scN sc (tl (sc 1) name port old other days (M, n) n).2) (tl (sc 1) name port old other days (M, n) n).1 (tl (sc 1) name port old other days (M, n) n).2 nc ns)) :=
  hMetX.sure (c_X4_turn hst hB.1 hB.2.1) (fun E S' z => pe2n h1 (by rw [decide_eq_true h2, decide_eq_false h3]; rfl) z.2) (fun v S' z => by obtain ⟨r, e, -, z2, z3⟩ := z; exact ⟨r, e, z2, lB_cl hB z3⟩)
theorem n_confirm (hst : l.stackTraces = false) (hB : lB S h cA f bk ca sa ad pa sc M n nc ns) (hV : ¬ sc 29 = -1 → okN (sc 30) = true ∧ okK (sc 29) = true) (h1 : ¬ sc 29 = -1) (h2 : n < 40) : hMet l yX4_confirm wsX4_confirm rm_X4_confirm g X S [.ref h] (pGI (fun r S' => r = nI n ∧ lB S' h cA f bk ca sa ad pa (va_up (scN sc (n + 1)) 29 (-1)) (aTr sc M n (sc 30) (sc 31) (sc 29)) (n + 1) nc ns)) :=
  hMetX.sure (c_X4_confirm hst hB.1 hB.2.1 hV) (fun E S' z => pe1n (by rw [decide_eq_true h1, decide_eq_true h2]; rfl) z.2) (fun v S' z => by obtain ⟨r, e, -, z2, z3⟩ := z; exact ⟨r, e, z2, lB_cl hB z3⟩)
theorem n_answer (hst : l.stackTraces = false) (hB : lB S h cA f bk ca sa ad pa sc M n nc ns) {name port key : Int32} (hNP : okNP name port = true) (hK : okK key = true) {co : Option Nat} (hco : ∀ c, co = some c → c < nc) : hMet l yX4_answer wsX4_answer rm_X4_answer g X S [.ref h, .int name, .int port, .int key, .int (lCt co)] (pGI (fun r S' => r = lJg (sc 1) M n ns name port key co ∧ lB S' h cA f bk ca sa ad pa (scN (aW sc (lJg (sc 1) M n ns name port key co) name port key) (aAns sc M n (lJg (sc 1) M n ns name port key co) (lAu M co) name port key).2) (aAns sc M n (lJg (sc 1) M n ns name port key co) (lAu M co) name port key).1 (aAns sc M n (lJg (sc 1) M n ns name port key co) (lAu M co) name port key).2 nc ns)) := by
  have hnc := lB_nc hB
  cases co with
  | none => exact hMetX.sure (c_X4_answer_n hst hB.1 hB.2.1) (fun E S' z => pe1n (okNPK hNP hK) z.2) (fun v S' z => by obtain ⟨r, e, -, z2, z3⟩ := z; exact ⟨r, e, z2, lB_cl hB z3⟩)
  | some c =>
    have hc := hco c rfl
    refine hMetX.sure (c_X4_answer hst hB.1 hB.2.1 (nI_nm1 (by omega))) (fun E S' z => pe2n (inL_nI hc (by omega)) (okNPK hNP hK) z.2) (fun v S' z => ?_)
    have ec : (lCt (some c)).toNatClampNeg = c := nI_clamp (by omega)
    rw [ec] at z
    obtain ⟨r, e, -, z2, z3⟩ := z
    exact ⟨r, e, z2, lB_cl hB z3⟩
end HLB
section HLaw
variable {p : Program} {l : Launch} {e : Env} {R : Room} {s : State} {m : MethodId} {args : Array Value} {below : List Frame} {meth : Method} {c : Code} {nL : Nat} {g : hG} {X : va_W} {Q : State → Prop} {S : hS} {cells slots : Nat} {lv : List (Nat × Value)} {pc : Nat} {st st1 : List Value} {cc : ByteArray} {Ts : List Cond} {own : String} {b L : Nat} {xs : Nat → Int32}
theorem q_cutB {tgt k n : Nat} (v : Value) (h : V p l e R s m args below meth c nL g X Q S k n lv tgt (v :: st1) → V p l e R s m args below meth c nL g X Q S cells slots lv pc st) (kk : V p l e R s m args below meth c nL g X Q S k n lv tgt (v :: st1)) : V p l e R s m args below meth c nL g X Q S cells slots lv pc st := h kk
theorem q_cld {h cA bk ca sa : Nat} {f : Nat → Int32} {ad pa : Nat → Nat} {sc : Nat → Int32} {M : Nat → Nat → Int32} {n nc ns : Nat} (F : hF p l s m args meth c cc nL Ts own g) (hB : lB S h cA f bk ca sa ad pa sc M n nc ns) {i : Int32} (j : Nat) (hij : i = nI j) (hj : j < 48) (d : decode cc pc = .ok (.iaload, 1))
    (kk : V p l e R s m args below meth c nL g X Q S cells slots lv (pc + 1) (.int (f j) :: st)) : V p l e R s m args below meth c nL g X Q S cells slots lv pc (.int i :: .ref cA :: st) :=
  q_iald F hB.2.2.1 hB.2.2.2.1 hij hj (by decide) d (q_top kk (congrArg Value.int (by rw [hB.2.2.2.2])))
theorem q_cst {h cA bk ca sa : Nat} {f : Nat → Int32} {ad pa : Nat → Nat} {sc : Nat → Int32} {M : Nat → Nat → Int32} {n nc ns : Nat} (F : hF p l s m args meth c cc nL Ts own g) (hB : lB S h cA f bk ca sa ad pa sc M n nc ns) {i x : Int32} (j : Nat) (hij : i = nI j) (hj : j < 48) (d : decode cc pc = .ok (.iastore, 1))
    (kk : ∀ S', lB S' h cA (va_up f j x) bk ca sa ad pa sc M n nc ns → V p l e R s m args below meth c nL g X Q S' cells slots lv (pc + 1) st) : V p l e R s m args below meth c nL g X Q S cells slots lv pc (.int x :: .int i :: .ref cA :: st) :=
  q_iast F hB.2.2.1 hB.2.2.2.1 hij hj (by decide) d (kk _ (lB_st hB j x))
theorem q_ldc (F : hF p l s m args meth c cc nL Ts own g) {index : Nat} {v : Int32} (hw : Cond.constant own index v ∈ Ts) (d : decode cc pc = .ok (.ldc index, 2))
    (kk : V p l e R s m args below meth c nL g X Q S cells slots lv (pc + 2) (.int v :: st)) : V p l e R s m args below meth c nL g X Q S cells slots lv pc st := fun H locs ls hw0 hS0 hl => lv_ldc F.1.1 F.1.2.1 F.1.2.2.2.1 (F.1.2.2.2.2 _ hw) d (kk H locs ls hw0 hS0 hl)
theorem q_land (F : hF p l s m args meth c cc nL Ts own g) {x y : Int64} (d : decode cc pc = .ok (.land, 1))
    (kk : V p l e R s m args below meth c nL g X Q S cells slots lv (pc + 1) (.long (x &&& y) :: st)) : V p l e R s m args below meth c nL g X Q S cells slots lv pc (.long y :: .long x :: st) := fun H locs ls hw0 hS0 hl => lv_land F.1.1 F.1.2.1 d (kk H locs ls hw0 hS0 hl)
theorem q_lshr (F : hF p l s m args meth c cc nL Ts own g) {x : Int64} {y : Int32} (d : decode cc pc = .ok (.lshr, 1))
    (kk : V p l e R s m args below meth c nL g X Q S cells slots lv (pc + 1) (.long (x >>> (y.toInt64 &&& 63)) :: st)) : V p l e R s m args below meth c nL g X Q S cells slots lv pc (.int y :: .long x :: st) := fun H locs ls hw0 hS0 hl => lv_lshr F.1.1 F.1.2.1 d rfl (kk H locs ls hw0 hS0 hl)
theorem q_lcmp (F : hF p l s m args meth c cc nL Ts own g) {x y : Int64} (h : x = y) (d : decode cc pc = .ok (.lcmp, 1))
    (kk : V p l e R s m args below meth c nL g X Q S cells slots lv (pc + 1) (.int 0 :: st)) : V p l e R s m args below meth c nL g X Q S cells slots lv pc (.long y :: .long x :: st) := fun H locs ls hw0 hS0 hl => by
  subst h
  refine W.lcmp F.1.1 F.1.2.1 d ?_
  rw [show lg_cmp x x = 0 by simp [lg_cmp]]
  exact kk H locs ls hw0 hS0 hl
theorem q_sld (F : hF p l s m args meth c cc nL Ts own g) (hX : va_X b L xs s s.heap) (hb : b < s.heap.size) (hbA : b < g.2.2) {i : Int32} {j : Nat} (hij : i = nI j) (hj : j < L) (hL : L < 2 ^ 31) (d : decode cc pc = .ok (.iaload, 1))
    (kk : V p l e R s m args below meth c nL g X Q S cells slots lv (pc + 1) (.int (xs j) :: st)) : V p l e R s m args below meth c nL g X Q S cells slots lv pc (.int i :: .ref b :: st) := by
  intro H locs ls hw0 hS0 hl
  obtain ⟨h1, h2⟩ := h_idx hij hj hL
  refine va_sld F.1.1 F.1.2.1 hX hb (Nat.not_le.mpr hbA) hS0 h1 d ?_
  rw [h2]
  exact kk H locs ls hw0 hS0 hl
theorem q_slen (F : hF p l s m args meth c cc nL Ts own g) (hX : va_X b L xs s s.heap) (hb : b < s.heap.size) (hbA : b < g.2.2) (d : decode cc pc = .ok (.arraylength, 1))
    (kk : V p l e R s m args below meth c nL g X Q S cells slots lv (pc + 1) (.int (nI L) :: st)) : V p l e R s m args below meth c nL g X Q S cells slots lv pc (.ref b :: st) := fun H locs ls hw0 hS0 hl =>
  va_slen F.1.1 F.1.2.1 hX hb (Nat.not_le.mpr hbA) hS0 d (kk H locs ls hw0 hS0 hl)
theorem q_tswO (F : hF p l s m args meth c cc nL Ts own g) {dflt lo hi : Int} {offs : Array Int} {len : Nat} {x : Int32} (tgt : Nat) (d : decode cc pc = .ok (.tableswitch dflt lo hi offs, len)) (h : x.toInt < lo ∨ hi < x.toInt) (ht : (pc : Int) + dflt = (tgt : Int))
    (kk : V p l e R s m args below meth c nL g X Q S cells slots lv tgt st) : V p l e R s m args below meth c nL g X Q S cells slots lv pc (.int x :: st) := fun H locs ls hw0 hS0 hl =>
  lv_tableOut F.1.1 F.1.2.1 d h ht (kk H locs ls hw0 hS0 hl)
theorem q_tswI (F : hF p l s m args meth c cc nL Ts own g) {dflt lo hi : Int} {offs : Array Int} {len : Nat} {x : Int32} {off : Int} (tgt : Nat) (d : decode cc pc = .ok (.tableswitch dflt lo hi offs, len)) (h1 : ¬ x.toInt < lo) (h2 : ¬ hi < x.toInt) (ho : offs[(x.toInt - lo).toNat]? = some off) (ht : (pc : Int) + off = (tgt : Int))
    (kk : V p l e R s m args below meth c nL g X Q S cells slots lv tgt st) : V p l e R s m args below meth c nL g X Q S cells slots lv pc (.int x :: st) := fun H locs ls hw0 hS0 hl =>
  lv_tableIn F.1.1 F.1.2.1 d h1 h2 ho ht (kk H locs ls hw0 hS0 hl)
/-! a method that reads the script -/
def hPreZ (b L : Nat) (xs : Nat → Int32) (g : hG) (X : va_W) (S : hS) (av : List Value) : Array Value → State → Prop := va_Pc av (fun U => g.2.2 ≤ U.heap.size ∧ hw g X S U.heap ∧ hk g U U.heap ∧ va_X b L xs U U.heap ∧ b < U.heap.size)
theorem hPreZ_blind (b L : Nat) (xs : Nat → Int32) (g : hG) (X : va_W) (S : hS) (av : List Value) : FrameBlind (hPreZ b L xs g X S av) := by
  intro a U f mk h
  obtain ⟨h1, h0, h2, h3, h4, h5⟩ := h
  exact ⟨h1, h0, h2, hk_moved (U := U.calling f mk a) h3 (State.WarmedH.refl U) (fun _ _ _ => rfl), va_X.moved (State.WarmedH.refl U).alike h4, h5⟩
def hMetZ (b L : Nat) (xs : Nat → Int32) (l : Launch) (y : MethodName) (ws : List Cond) (rm : Room) (g : hG) (X : va_W) (S : hS) (av : List Value) (post : Option Value → hS → Prop) : Prop := Met l y ws rm (hPreZ b L xs g X S av) (hQ g X post) rm.cells rm.slots (hA g)
theorem h_startZ {y : MethodName} {ws ws' : List Cond} {rm : Room} {av : List Value} {post : Option Value → hS → Prop} {maxL : Nat} {ret : Option FieldType}
    (hy : plainName y.cls = true) (hws : ws = Cond.code y cc maxL ret :: ws') (hlen : (lg_sl av).length ≤ maxL)
    (body : ∀ (p : Program) (e : Env) (s : State) (m : MethodId) (args : Array Value) (below : List Frame) (meth : Method) (c : Code), hF p l s m args meth c cc maxL ws y.cls g → meth.sig.returnType = ret → va_X b L xs s s.heap → b < s.heap.size →
      V p l e rm s m args below meth c maxL g X (MQ below (hQ g X post) args s rm.cells rm.slots (hA g)) S 0 0 (lv_args 0 av) 0 []) : hMetZ b L xs l y ws rm g X S av post := by
  refine Met.ofW (cc := cc) (maxL := maxL) (ret := ret) hy hws ?_
  intro p e s m args below meth c s₁ B hml hv
  obtain ⟨rfl, hz0, hwH, hkH, hX1, hb1⟩ := hv
  have hF9 : hF p l s m av.toArray meth c cc maxL ws y.cls g := ⟨⟨B.exec, B.bytes, hml, findClass_of_methodNamed B.named, atoms_spec (ws := ws) B.pre⟩, hkH, B.notSynchronized, hz0⟩
  rw [lg_entry_eq]
  exact body p e s m _ below meth c hF9 B.returns hX1 hb1 s.heap [] _ hwH va_S.rf (lv_entry av hlen)
theorem h_preZ {H : Heap} {locs : List Loc} {av : List Value} (hz : g.2.2 ≤ s.heap.size) (hk0 : hk g s s.heap) (hX : va_X b L xs s s.heap) (hb : b < s.heap.size) (hbA : b < g.2.2) (hw0 : hw g X S H) (hS0 : va_S (hA g) s.heap H locs) : PreS s H (hPreZ b L xs g X S av) av :=
  ⟨hPreZ_blind b L xs g X S av, fun U hU hW => ⟨rfl, by rw [hU]; exact Nat.le_trans hz hS0.1, by rw [hU]; exact hw0, hk_moved hk0 hW (by rw [hU]; exact hS0.2.1), (va_X.kept (va_X.moved hW.alike hX) (by rw [hU]; exact hS0.2.1 b hb (Nat.not_le.mpr hbA))), by rw [hU]; exact Nat.lt_of_lt_of_le hb hS0.1⟩⟩
theorem q_callZ_i {index n maxL : Nat} {y : MethodName} {bytes : ByteArray} {ret : Option FieldType} {ws ws' : List Cond} {rm : Room} {As st0 rest : List Value} {ri : Int32} (F : hF p l s m args meth c cc nL Ts own g) (hX : va_X b L xs s s.heap) (hb : b < s.heap.size) (hbA : b < g.2.2) (hM : hMetZ b L xs l y ws rm g X S As (pI ri S)) (hG : GoodIn Ts (va_wsS own index y ws)) (hw1 : ws = Cond.code y bytes maxL ret :: ws') (hd : y.cls ≠ "java/lang/invoke/MethodHandle" ∧ y.cls ≠ "java/lang/invoke/VarHandle" ∧ (parseMethodDescriptor y.desc).map (fun d => d.parameters.length) = some n) (hR : rm.frames + 1 ≤ R.frames ∧ 8 + (maxL + 11) + rm.locals ≤ R.locals) (hn : As.length = n) (hst : st0 = As.reverse ++ rest) (hr : (rest.map fun v => v.category).sum ≤ 8) (d : decode cc pc = .ok (.invokestatic index, 3)) (hf : cells + rm.cells ≤ R.cells ∧ slots + rm.slots ≤ R.slots)
    (kk : V p l e R s m args below meth c nL g X Q S (cells + rm.cells) (slots + rm.slots) lv (pc + 3) (.int ri :: rest)) : V p l e R s m args below meth c nL g X Q S cells slots lv pc st0 := by
  intro H locs ls hw0 hS0 hl
  subst hst
  exact h_call (va_runS F.1 hM (va_cwS n F.1.2.2.2.2 hG hw1 rfl rfl hd hR) (h_preZ F.2.2.2 F.2.1 hX hb hbA hw0 hS0) rfl hn hl.1 rfl (lv_room hr) d hf) hS0 (fun v S' H1 locs1 hp hw1 hS1 => by obtain ⟨rfl, rfl⟩ := hp; exact kk H1 locs1 ls hw1 hS1 hl)
end HLaw
