theorem inR_L0 {j : Nat} (hj : j < 2 ^ 31) : decide (nI j ≤ nI 0 - 1) = decide (nI j < nI 0) := by
  have e : nI 0 - 1 = (-1 : Int32) := by decide
  have h1 : ¬ nI j ≤ -1 := fun z => nI_pos hj (Int32.lt_of_le_of_lt z (by decide))
  have h2 : ¬ nI j < nI 0 := by rw [nI_0]; exact nI_pos hj
  rw [e, decide_eq_false h1, decide_eq_false h2]
theorem inR_LS {j k : Nat} (hj : j < 2 ^ 31) (hk : k + 1 < 2 ^ 31) : decide (nI j ≤ nI (k + 1) - 1) = decide (nI j < nI (k + 1)) := by
  rw [nI_pred]
  exact decide_eq_decide.mpr ⟨fun z => nI_lt (Nat.lt_succ_of_le ((nI_leI hj (Nat.lt_of_succ_lt hk)).mp z)) hk, fun z => nI_le (Nat.le_of_lt_succ ((nI_ltI hj hk).mp z)) (Nat.lt_of_succ_lt hk)⟩
theorem inR_L {v : Int32} {n : Nat} (hn : n < 2 ^ 31) : inR v 0 (nI n - 1) = inL v n := by
  unfold inR inL
  by_cases h0 : v < 0
  · rw [decide_eq_false (Int32.not_le.mpr h0), Bool.false_and, Bool.false_and]
  · obtain ⟨j, hj, rfl⟩ := nI_of h0
    refine congrArg (fun z => decide (0 ≤ nI j) && z) ?_
    cases n with
    | zero => exact inR_L0 hj
    | succ k => exact inR_LS hj hn
theorem four (i : Nat) : 4 * nI i = nI (4 * i) := by
  rw [show (4 : Int32) = nI 4 from rfl, pk_mul]

set_option maxHeartbeats 4000000 in
set_option maxRecDepth 100000 in
theorem c_X5_thrown {l : Launch} {g : hG} {X : va_W} {S : hS} {md : Nat} {ar : Nat → Nat} {sc : Nat → Int32} {M : Nat → Nat → Int32} (hM : mS S md ar sc M) : hMet l yX5_thrown wsX5_thrown rm_X5_thrown g X S [.ref md] (pI (sc 0) S) := by
  refine h_start (maxL := 1) (ret := (some .int)) (by decide) rfl (Nat.le_of_ble_eq_true rfl) ?_
  intro p e s m args below meth c F hr hinit
  refine q_aload_n F 0 dX5_thrown_0 rfl rfl ?_
  refine qg_X5_84 F hM.1.1 dX5_thrown_1 ?_
  refine q_mg 0 (_) rfl hM rfl ?_
  exact (q_reti F hr rfl dX5_thrown_4 (Nat.le_of_ble_eq_true rfl) (Nat.le_of_ble_eq_true rfl) ⟨rfl, rfl⟩)

section HCz
variable {p : Program} {l : Launch} {e : Env} {R : Room} {s : State} {m' : MethodId} {args : Array Value} {below : List Frame} {meth : Method} {c : Code} {nL : Nat} {g : hG} {X : va_W} {Q : State → Prop} {S : hS} {cells slots : Nat} {lv : List (Nat × Value)} {pc : Nat} {st : List Value}
theorem q_cz {v : Int32} (kk : V p l e R s m' args below meth c nL g X Q S cells slots lv pc (.int v :: st)) : V p l e R s m' args below meth c nL g X Q S cells slots lv pc (.int v :: st) := kk
end HCz
set_option maxHeartbeats 4000000 in
set_option maxRecDepth 100000 in
theorem c_X5_holds {l : Launch} {g : hG} {X : va_W} {S : hS} {md : Nat} {ar : Nat → Nat} {sc : Nat → Int32} {M : Nat → Nat → Int32} (hM : mS S md ar sc M) {pl : Int32} : hMet l yX5_holds wsX5_holds rm_X5_holds g X S [.ref md, .int pl] (mI S md ar (b2 (decide (pl = 0))) (va_up sc 0 pl) M) := by
  refine h_start (maxL := 2) (ret := (some .boolean)) (by decide) rfl (Nat.le_of_ble_eq_true rfl) ?_
  intro p e s m args below meth c F hr hinit
  have hm := mdF.rf S
  refine q_aload_n F 0 dX5_holds_0 rfl rfl ?_
  refine q_iload_n F 1 dX5_holds_1 rfl rfl ?_
  refine qp_X5_84 F hM.1.1 dX5_holds_2 ?_
  refine q_mF 0 hM hm (fun S2 hM hm => ?_)
  refine q_iload_n F 1 dX5_holds_5 rfl rfl ?_
  refine q_if_ne F 13 dX5_holds_6 rfl (fun c6 => ?_) (fun c6 => ?_)
  · refine q_iconst F dX5_holds_13 hc_0 ?_
    exact (q_reti F hr rfl dX5_holds_14 (Nat.le_of_ble_eq_true rfl) (Nat.le_of_ble_eq_true rfl) ⟨_, rfl, by first | rw [decide_eq_true c6]; rfl | rw [decide_eq_false c6]; rfl, hM, hm⟩)
  refine q_iconst F dX5_holds_9 hc_1 ?_
  refine q_goto F 14 dX5_holds_10 rfl ?_
  exact (q_reti F hr rfl dX5_holds_14 (Nat.le_of_ble_eq_true rfl) (Nat.le_of_ble_eq_true rfl) ⟨_, rfl, by first | rw [decide_eq_true c6]; rfl | rw [decide_eq_false c6]; rfl, hM, hm⟩)

set_option maxHeartbeats 4000000 in
set_option maxRecDepth 100000 in
theorem c_X5_isIn {l : Launch} {g : hG} {X : va_W} {S : hS} {v lo hi : Int32} : hMet l yX5_isIn wsX5_isIn rm_X5_isIn g X S [.int v, .int lo, .int hi] (pI (b2 (inR v lo hi)) S) := by
  refine h_start (maxL := 3) (ret := (some .boolean)) (by decide) rfl (Nat.le_of_ble_eq_true rfl) ?_
  intro p e s m args below meth c F hr hinit
  refine q_iload_n F 0 dX5_isIn_0 rfl rfl ?_
  refine q_iload_n F 1 dX5_isIn_1 rfl rfl ?_
  refine q_icmp_lt F 14 dX5_isIn_2 rfl (fun c2 => ?_) (fun c2 => ?_)
  · refine q_iconst F dX5_isIn_14 hc_0 ?_
    exact (q_reti F hr rfl dX5_isIn_15 (Nat.le_of_ble_eq_true rfl) (Nat.le_of_ble_eq_true rfl) ⟨by first | (rw [inR_f1 c2]; rfl) | (rw [inR_f2 (Int32.not_le.mpr c7)]; rfl) | (rw [inR_t c2 (Int32.not_lt.mp c7)]; rfl), rfl⟩)
  refine q_iload_n F 0 dX5_isIn_5 rfl rfl ?_
  refine q_iload_n F 2 dX5_isIn_6 rfl rfl ?_
  refine q_icmp_gt F 14 dX5_isIn_7 rfl (fun c7 => ?_) (fun c7 => ?_)
  · refine q_iconst F dX5_isIn_14 hc_0 ?_
    exact (q_reti F hr rfl dX5_isIn_15 (Nat.le_of_ble_eq_true rfl) (Nat.le_of_ble_eq_true rfl) ⟨by first | (rw [inR_f1 c2]; rfl) | (rw [inR_f2 (Int32.not_le.mpr c7)]; rfl) | (rw [inR_t c2 (Int32.not_lt.mp c7)]; rfl), rfl⟩)
  refine q_iconst F dX5_isIn_10 hc_1 ?_
  refine q_goto F 15 dX5_isIn_11 rfl ?_
  exact (q_reti F hr rfl dX5_isIn_15 (Nat.le_of_ble_eq_true rfl) (Nat.le_of_ble_eq_true rfl) ⟨by first | (rw [inR_f1 c2]; rfl) | (rw [inR_f2 (Int32.not_le.mpr c7)]; rfl) | (rw [inR_t c2 (Int32.not_lt.mp c7)]; rfl), rfl⟩)

set_option maxHeartbeats 4000000 in
set_option maxRecDepth 100000 in
theorem c_X5_isKey {l : Launch} {g : hG} {X : va_W} {S : hS} {v : Int32} : hMet l yX5_isKey wsX5_isKey rm_X5_isKey g X S [.int v] (pI (b2 (okK v)) S) := by
  refine h_start (maxL := 1) (ret := (some .boolean)) (by decide) rfl (Nat.le_of_ble_eq_true rfl) ?_
  intro p e s m args below meth c F hr hinit
  refine q_iload_n F 0 dX5_isKey_0 rfl rfl ?_
  refine q_iconst F dX5_isKey_1 hc_0 ?_
  refine q_sipush (v := 199) F dX5_isKey_2 (by decide) ?_
  refine q_callS_i F (c_X5_isIn) gX5_isKey_X5_isIn rfl hd_X5_isIn ⟨Nat.le_of_ble_eq_true rfl, Nat.le_of_ble_eq_true rfl⟩ rfl rfl (Nat.le_of_ble_eq_true rfl) dX5_isKey_5 ⟨Nat.le_of_ble_eq_true rfl, Nat.le_of_ble_eq_true rfl⟩ ?_
  exact (q_reti F hr (b2_nar _) dX5_isKey_8 (Nat.le_of_ble_eq_true rfl) (Nat.le_of_ble_eq_true rfl) ⟨rfl, rfl⟩)

set_option maxHeartbeats 4000000 in
set_option maxRecDepth 100000 in
theorem c_X5_isName {l : Launch} {g : hG} {X : va_W} {S : hS} {v : Int32} : hMet l yX5_isName wsX5_isName rm_X5_isName g X S [.int v] (pI (b2 (okN v)) S) := by
  refine h_start (maxL := 1) (ret := (some .boolean)) (by decide) rfl (Nat.le_of_ble_eq_true rfl) ?_
  intro p e s m args below meth c F hr hinit
  refine q_iload_n F 0 dX5_isName_0 rfl rfl ?_
  refine q_iconst F dX5_isName_1 hc_0 ?_
  refine q_sipush (v := 9999) F dX5_isName_2 (by decide) ?_
  refine q_callS_i F (c_X5_isIn) gX5_isName_X5_isIn rfl hd_X5_isIn ⟨Nat.le_of_ble_eq_true rfl, Nat.le_of_ble_eq_true rfl⟩ rfl rfl (Nat.le_of_ble_eq_true rfl) dX5_isName_5 ⟨Nat.le_of_ble_eq_true rfl, Nat.le_of_ble_eq_true rfl⟩ ?_
  exact (q_reti F hr (b2_nar _) dX5_isName_8 (Nat.le_of_ble_eq_true rfl) (Nat.le_of_ble_eq_true rfl) ⟨rfl, rfl⟩)

set_option maxHeartbeats 4000000 in
set_option maxRecDepth 100000 in
theorem c_X5_isPort {l : Launch} {g : hG} {X : va_W} {S : hS} {v : Int32} : hMet l yX5_isPort wsX5_isPort rm_X5_isPort g X S [.int v] (pI (b2 (okP v)) S) := by
  refine h_start (maxL := 1) (ret := (some .boolean)) (by decide) rfl (Nat.le_of_ble_eq_true rfl) ?_
  intro p e s m args below meth c F hr hinit
  refine q_iload_n F 0 dX5_isPort_0 rfl rfl ?_
  refine q_iconst F dX5_isPort_1 hc_0 ?_
  refine q_iconst F dX5_isPort_2 hc_3 ?_
  refine q_callS_i F (c_X5_isIn) gX5_isPort_X5_isIn rfl hd_X5_isIn ⟨Nat.le_of_ble_eq_true rfl, Nat.le_of_ble_eq_true rfl⟩ rfl rfl (Nat.le_of_ble_eq_true rfl) dX5_isPort_3 ⟨Nat.le_of_ble_eq_true rfl, Nat.le_of_ble_eq_true rfl⟩ ?_
  exact (q_reti F hr (b2_nar _) dX5_isPort_6 (Nat.le_of_ble_eq_true rfl) (Nat.le_of_ble_eq_true rfl) ⟨rfl, rfl⟩)

set_option maxHeartbeats 4000000 in
set_option maxRecDepth 100000 in
theorem c_X5_isMark {l : Launch} {g : hG} {X : va_W} {S : hS} {v : Int32} : hMet l yX5_isMark wsX5_isMark rm_X5_isMark g X S [.int v] (pI (b2 (inR v 0 2)) S) := by
  refine h_start (maxL := 1) (ret := (some .boolean)) (by decide) rfl (Nat.le_of_ble_eq_true rfl) ?_
  intro p e s m args below meth c F hr hinit
  refine q_iload_n F 0 dX5_isMark_0 rfl rfl ?_
  refine q_iconst F dX5_isMark_1 hc_0 ?_
  refine q_iconst F dX5_isMark_2 hc_2 ?_
  refine q_callS_i F (c_X5_isIn) gX5_isMark_X5_isIn rfl hd_X5_isIn ⟨Nat.le_of_ble_eq_true rfl, Nat.le_of_ble_eq_true rfl⟩ rfl rfl (Nat.le_of_ble_eq_true rfl) dX5_isMark_3 ⟨Nat.le_of_ble_eq_true rfl, Nat.le_of_ble_eq_true rfl⟩ ?_
  exact (q_reti F hr (b2_nar _) dX5_isMark_6 (Nat.le_of_ble_eq_true rfl) (Nat.le_of_ble_eq_true rfl) ⟨rfl, rfl⟩)

set_option maxHeartbeats 4000000 in
set_option maxRecDepth 100000 in
theorem c_X5_isLine {l : Launch} {g : hG} {X : va_W} {S : hS} {md : Nat} {ar : Nat → Nat} {sc : Nat → Int32} {M : Nat → Nat → Int32} (hM : mS S md ar sc M) {n : Nat} (hn : sc 4 = nI n) (hn40 : n ≤ 40) {v : Int32} : hMet l yX5_isLine wsX5_isLine rm_X5_isLine g X S [.ref md, .int v] (pI (b2 (inL v n)) S) := by
  refine h_start (maxL := 2) (ret := (some .boolean)) (by decide) rfl (Nat.le_of_ble_eq_true rfl) ?_
  intro p e s m args below meth c F hr hinit
  refine q_iload_n F 1 dX5_isLine_0 rfl rfl ?_
  refine q_iconst F dX5_isLine_1 hc_0 ?_
  refine q_aload_n F 0 dX5_isLine_2 rfl rfl ?_
  refine qg_X5_91 F hM.1.1 dX5_isLine_3 ?_
  refine q_mg 4 (nI n) rfl hM hn ?_
  refine q_iconst F dX5_isLine_6 hc_1 ?_
  refine q_isub F dX5_isLine_7 ?_
  refine q_callS_i F (c_X5_isIn) gX5_isLine_X5_isIn rfl hd_X5_isIn ⟨Nat.le_of_ble_eq_true rfl, Nat.le_of_ble_eq_true rfl⟩ rfl rfl (Nat.le_of_ble_eq_true rfl) dX5_isLine_8 ⟨Nat.le_of_ble_eq_true rfl, Nat.le_of_ble_eq_true rfl⟩ ?_
  exact (q_reti F hr (b2_nar _) dX5_isLine_11 (Nat.le_of_ble_eq_true rfl) (Nat.le_of_ble_eq_true rfl) ⟨by rw [inR_L (by omega)], rfl⟩)

set_option maxHeartbeats 4000000 in
set_option maxRecDepth 100000 in
theorem c_X5_hash {l : Launch} {g : hG} {X : va_W} {S : hS} {name salt : Int32} : hMet l yX5_hash wsX5_hash rm_X5_hash g X S [.int name, .int salt] (pI (hsh name salt) S) := by
  refine h_start (maxL := 2) (ret := (some .int)) (by decide) rfl (Nat.le_of_ble_eq_true rfl) ?_
  intro p e s m args below meth c F hr hinit
  refine q_bipush (v := 31) F dX5_hash_0 (by decide) ?_
  refine q_iload_n F 0 dX5_hash_2 rfl rfl ?_
  refine q_imul F dX5_hash_3 ?_
  refine q_bipush (v := 17) F dX5_hash_4 (by decide) ?_
  refine q_iload_n F 1 dX5_hash_6 rfl rfl ?_
  refine q_imul F dX5_hash_7 ?_
  refine q_iadd F dX5_hash_8 ?_
  refine q_iconst F dX5_hash_9 hc_5 ?_
  refine q_iadd F dX5_hash_10 ?_
  refine q_sipush (v := 499) F dX5_hash_11 (by decide) ?_
  refine q_irem F dX5_hash_14 (by decide) ?_
  exact (q_reti F hr rfl dX5_hash_15 (Nat.le_of_ble_eq_true rfl) (Nat.le_of_ble_eq_true rfl) ⟨rfl, rfl⟩)

set_option maxHeartbeats 4000000 in
set_option maxRecDepth 100000 in
theorem c_X5_hasEnded {l : Launch} {g : hG} {X : va_W} {S : hS} {md : Nat} {ar : Nat → Nat} {sc : Nat → Int32} {M : Nat → Nat → Int32} (hM : mS S md ar sc M) {i : Nat} (hi : i < 40) : hMet l yX5_hasEnded wsX5_hasEnded rm_X5_hasEnded g X S [.ref md, .int (nI i)] (pI (b2 (en (sc 1) (M 8 i))) S) := by
  refine h_start (maxL := 2) (ret := (some .boolean)) (by decide) rfl (Nat.le_of_ble_eq_true rfl) ?_
  intro p e s m args below meth c F hr hinit
  refine q_aload_n F 0 dX5_hasEnded_0 rfl rfl ?_
  refine qg_X5_23 F (hM.1.2.1 8 rfl).1 hM.1.1 dX5_hasEnded_1 ?_
  refine q_iload_n F 1 dX5_hasEnded_4 rfl rfl ?_
  refine q_iald F (hM.1.2.1 8 rfl).2.1 (hM.1.2.1 8 rfl).2.2 rfl hi (by decide) dX5_hasEnded_5 ?_
  refine q_ma 8 (_) rfl hM rfl ?_
  refine q_iconst F dX5_hasEnded_6 hc_m1 ?_
  refine q_icmp_eq F 27 dX5_hasEnded_7 rfl (fun c7 => ?_) (fun c7 => ?_)
  · refine q_iconst F dX5_hasEnded_27 hc_0 ?_
    exact (q_reti F hr rfl dX5_hasEnded_28 (Nat.le_of_ble_eq_true rfl) (Nat.le_of_ble_eq_true rfl) ⟨by unfold en; first | (rw [c7]; rfl) | (rw [decide_eq_true c7, decide_eq_false (Int32.not_le.mpr c20)]; rfl) | (rw [decide_eq_true c7, decide_eq_true (Int32.not_lt.mp c20)]; rfl), rfl⟩)
  refine q_aload_n F 0 dX5_hasEnded_10 rfl rfl ?_
  refine qg_X5_101 F hM.1.1 dX5_hasEnded_11 ?_
  refine q_mg 1 (_) rfl hM rfl ?_
  refine q_aload_n F 0 dX5_hasEnded_14 rfl rfl ?_
  refine qg_X5_23 F (hM.1.2.1 8 rfl).1 hM.1.1 dX5_hasEnded_15 ?_
  refine q_iload_n F 1 dX5_hasEnded_18 rfl rfl ?_
  refine q_iald F (hM.1.2.1 8 rfl).2.1 (hM.1.2.1 8 rfl).2.2 rfl hi (by decide) dX5_hasEnded_19 ?_
  refine q_ma 8 (_) rfl hM rfl ?_
  refine q_icmp_lt F 27 dX5_hasEnded_20 rfl (fun c20 => ?_) (fun c20 => ?_)
  · refine q_iconst F dX5_hasEnded_27 hc_0 ?_
    exact (q_reti F hr rfl dX5_hasEnded_28 (Nat.le_of_ble_eq_true rfl) (Nat.le_of_ble_eq_true rfl) ⟨by unfold en; first | (rw [c7]; rfl) | (rw [decide_eq_true c7, decide_eq_false (Int32.not_le.mpr c20)]; rfl) | (rw [decide_eq_true c7, decide_eq_true (Int32.not_lt.mp c20)]; rfl), rfl⟩)
  refine q_iconst F dX5_hasEnded_23 hc_1 ?_
  refine q_goto F 28 dX5_hasEnded_24 rfl ?_
  exact (q_reti F hr rfl dX5_hasEnded_28 (Nat.le_of_ble_eq_true rfl) (Nat.le_of_ble_eq_true rfl) ⟨by unfold en; first | (rw [c7]; rfl) | (rw [decide_eq_true c7, decide_eq_false (Int32.not_le.mpr c20)]; rfl) | (rw [decide_eq_true c7, decide_eq_true (Int32.not_lt.mp c20)]; rfl), rfl⟩)

set_option maxHeartbeats 4000000 in
set_option maxRecDepth 100000 in
theorem c_X5_areAsked {l : Launch} {g : hG} {X : va_W} {S : hS} {name port key : Int32} : hMet l yX5_areAsked wsX5_areAsked rm_X5_areAsked g X S [.int name, .int port, .int key] (pI (b2 (okNP name port && okK key)) S) := by
  refine h_start (maxL := 3) (ret := (some .boolean)) (by decide) rfl (Nat.le_of_ble_eq_true rfl) ?_
  intro p e s m args below meth c F hr hinit
  refine q_iload_n F 0 dX5_areAsked_0 rfl rfl ?_
  refine q_callS_i F (c_X5_isName) gX5_areAsked_X5_isName rfl hd_X5_isName ⟨Nat.le_of_ble_eq_true rfl, Nat.le_of_ble_eq_true rfl⟩ rfl rfl (Nat.le_of_ble_eq_true rfl) dX5_areAsked_1 ⟨Nat.le_of_ble_eq_true rfl, Nat.le_of_ble_eq_true rfl⟩ ?_
  refine q_if_eq F 25 dX5_areAsked_4 rfl (fun c4 => ?_) (fun c4 => ?_)
  · refine q_iconst F dX5_areAsked_25 hc_0 ?_
    exact (q_reti F hr rfl dX5_areAsked_26 (Nat.le_of_ble_eq_true rfl) (Nat.le_of_ble_eq_true rfl) ⟨by unfold okNP; first | (rw [b2_0.mp c4]; rfl) | (rw [b2_0.mp c11, Bool.and_false]; rfl) | (rw [b2_0.mp c18, Bool.and_false]; rfl) | (rw [b2_n0 c4, b2_n0 c11, b2_n0 c18]; rfl), rfl⟩)
  refine q_iload_n F 1 dX5_areAsked_7 rfl rfl ?_
  refine q_callS_i F (c_X5_isPort) gX5_areAsked_X5_isPort rfl hd_X5_isPort ⟨Nat.le_of_ble_eq_true rfl, Nat.le_of_ble_eq_true rfl⟩ rfl rfl (Nat.le_of_ble_eq_true rfl) dX5_areAsked_8 ⟨Nat.le_of_ble_eq_true rfl, Nat.le_of_ble_eq_true rfl⟩ ?_
  refine q_if_eq F 25 dX5_areAsked_11 rfl (fun c11 => ?_) (fun c11 => ?_)
  · refine q_iconst F dX5_areAsked_25 hc_0 ?_
    exact (q_reti F hr rfl dX5_areAsked_26 (Nat.le_of_ble_eq_true rfl) (Nat.le_of_ble_eq_true rfl) ⟨by unfold okNP; first | (rw [b2_0.mp c4]; rfl) | (rw [b2_0.mp c11, Bool.and_false]; rfl) | (rw [b2_0.mp c18, Bool.and_false]; rfl) | (rw [b2_n0 c4, b2_n0 c11, b2_n0 c18]; rfl), rfl⟩)
  refine q_iload_n F 2 dX5_areAsked_14 rfl rfl ?_
  refine q_callS_i F (c_X5_isKey) gX5_areAsked_X5_isKey rfl hd_X5_isKey ⟨Nat.le_of_ble_eq_true rfl, Nat.le_of_ble_eq_true rfl⟩ rfl rfl (Nat.le_of_ble_eq_true rfl) dX5_areAsked_15 ⟨Nat.le_of_ble_eq_true rfl, Nat.le_of_ble_eq_true rfl⟩ ?_
  refine q_if_eq F 25 dX5_areAsked_18 rfl (fun c18 => ?_) (fun c18 => ?_)
  · refine q_iconst F dX5_areAsked_25 hc_0 ?_
    exact (q_reti F hr rfl dX5_areAsked_26 (Nat.le_of_ble_eq_true rfl) (Nat.le_of_ble_eq_true rfl) ⟨by unfold okNP; first | (rw [b2_0.mp c4]; rfl) | (rw [b2_0.mp c11, Bool.and_false]; rfl) | (rw [b2_0.mp c18, Bool.and_false]; rfl) | (rw [b2_n0 c4, b2_n0 c11, b2_n0 c18]; rfl), rfl⟩)
  refine q_iconst F dX5_areAsked_21 hc_1 ?_
  refine q_goto F 26 dX5_areAsked_22 rfl ?_
  exact (q_reti F hr rfl dX5_areAsked_26 (Nat.le_of_ble_eq_true rfl) (Nat.le_of_ble_eq_true rfl) ⟨by unfold okNP; first | (rw [b2_0.mp c4]; rfl) | (rw [b2_0.mp c11, Bool.and_false]; rfl) | (rw [b2_0.mp c18, Bool.and_false]; rfl) | (rw [b2_n0 c4, b2_n0 c11, b2_n0 c18]; rfl), rfl⟩)

set_option maxHeartbeats 4000000 in
set_option maxRecDepth 100000 in
theorem c_X5_areLike {l : Launch} {g : hG} {X : va_W} {S : hS} {pl o t : Int32} : hMet l yX5_areLike wsX5_areLike rm_X5_areLike g X S [.int o, .int t, .int pl] (pI (b2 (like pl o t)) S) := by
  refine h_start (maxL := 7) (ret := (some .boolean)) (by decide) rfl (Nat.le_of_ble_eq_true rfl) ?_
  intro p e s m args below meth c F hr hinit
  refine q_iload_n F 0 dX5_areLike_0 rfl rfl ?_
  refine q_istore_n F 3 dX5_areLike_1 rfl (by decide) rfl ?_
  refine q_iload_n F 1 dX5_areLike_2 rfl rfl ?_
  refine q_istore F dX5_areLike_3 (by decide) rfl ?_
  refine q_iconst F dX5_areLike_5 hc_1 ?_
  refine q_istore F dX5_areLike_6 (by decide) rfl ?_
  refine q_iconst F dX5_areLike_8 hc_3 ?_
  refine q_istore F dX5_areLike_9 (by decide) rfl ?_
  have L : ∀ (k : Nat) (x y : Int32) (ac : Bool), k ≤ 4 → (ac && lk pl k x y) = like pl o t → V p l e rm_X5_areLike s m args below meth c 7 g X (MQ below (hQ g X (pI (b2 (like pl o t)) S)) args s rm_X5_areLike.cells rm_X5_areLike.slots (hA g)) S 0 0 [(0, .int o), (1, .int t), (2, .int pl), (3, .int x), (4, .int y), (5, .int (b2 ac)), (6, .int (dN k))] 11 [] := by
    intro k
    induction k with
    | zero =>
      intro x y ac hk hL
      refine q_iload F dX5_areLike_11 rfl ?_
      refine q_if_lt F 67 dX5_areLike_13 rfl (fun c13 => ?_) (fun c13 => ?_)
      · refine q_iload F dX5_areLike_67 rfl ?_
        exact (q_reti F hr (b2_nar _) dX5_areLike_69 (Nat.le_of_ble_eq_true rfl) (Nat.le_of_ble_eq_true rfl) ⟨by rw [← hL, lk, Bool.and_true], rfl⟩)
      exact absurd c13 (by decide)
    | succ k ih =>
      intro x y ac hk hL
      refine q_iload F dX5_areLike_11 rfl ?_
      refine q_if_lt F 67 dX5_areLike_13 rfl (fun c13 => ?_) (fun c13 => ?_)
      · exact absurd c13 (dN_s (by omega))
      refine q_iload F dX5_areLike_16 rfl ?_
      refine q_if_eq F 46 dX5_areLike_18 rfl (fun c18 => ?_) (fun c18 => ?_)
      · refine q_iconst F dX5_areLike_46 hc_0 ?_
        refine q_istore F dX5_areLike_47 (by decide) rfl ?_
        refine q_iload_n F 3 dX5_areLike_49 rfl rfl ?_
        refine q_bipush (v := 10) F dX5_areLike_50 (by decide) ?_
        refine q_idiv F dX5_areLike_52 (by decide) ?_
        refine q_istore_n F 3 dX5_areLike_53 rfl (by decide) rfl ?_
        refine q_iload F dX5_areLike_54 rfl ?_
        refine q_bipush (v := 10) F dX5_areLike_56 (by decide) ?_
        refine q_idiv F dX5_areLike_58 (by decide) ?_
        refine q_istore F dX5_areLike_59 (by decide) rfl ?_
        refine q_iinc F (dN k) dX5_areLike_61 rfl (dN_dec k) (by decide) rfl ?_
        refine q_goto F 11 dX5_areLike_64 rfl ?_
        first
          | exact q_to (ih _ _ false (by omega) (by rw [← hL]; first | (rw [b2_0.mp c18]; rfl) | (rw [lk_no ((and1_iff _).mpr c27) c39, Bool.and_false]; rfl))) ⟨rfl, rfl, rfl, rfl, rfl, rfl, rfl, trivial⟩
          | exact q_to (ih _ _ true (by omega) (by rw [← hL, b2_n0 c18]; first | rw [lk_yes0 (fun z => ((and1_iff _).mp z) c27)] | rw [lk_yes1 c39])) ⟨rfl, rfl, rfl, rfl, rfl, rfl, rfl, trivial⟩
      refine q_iload_n F 2 dX5_areLike_21 rfl rfl ?_
      refine q_iload F dX5_areLike_22 rfl ?_
      refine q_ishr F dX5_areLike_24 ?_
      refine q_iconst F dX5_areLike_25 hc_1 ?_
      refine q_iand F dX5_areLike_26 ?_
      refine q_if_eq F 42 dX5_areLike_27 rfl (fun c27 => ?_) (fun c27 => ?_)
      · refine q_iconst F dX5_areLike_42 hc_1 ?_
        refine q_goto F 47 dX5_areLike_43 rfl ?_
        refine q_istore F dX5_areLike_47 (by decide) rfl ?_
        refine q_iload_n F 3 dX5_areLike_49 rfl rfl ?_
        refine q_bipush (v := 10) F dX5_areLike_50 (by decide) ?_
        refine q_idiv F dX5_areLike_52 (by decide) ?_
        refine q_istore_n F 3 dX5_areLike_53 rfl (by decide) rfl ?_
        refine q_iload F dX5_areLike_54 rfl ?_
        refine q_bipush (v := 10) F dX5_areLike_56 (by decide) ?_
        refine q_idiv F dX5_areLike_58 (by decide) ?_
        refine q_istore F dX5_areLike_59 (by decide) rfl ?_
        refine q_iinc F (dN k) dX5_areLike_61 rfl (dN_dec k) (by decide) rfl ?_
        refine q_goto F 11 dX5_areLike_64 rfl ?_
        first
          | exact q_to (ih _ _ false (by omega) (by rw [← hL]; first | (rw [b2_0.mp c18]; rfl) | (rw [lk_no ((and1_iff _).mpr c27) c39, Bool.and_false]; rfl))) ⟨rfl, rfl, rfl, rfl, rfl, rfl, rfl, trivial⟩
          | exact q_to (ih _ _ true (by omega) (by rw [← hL, b2_n0 c18]; first | rw [lk_yes0 (fun z => ((and1_iff _).mp z) c27)] | rw [lk_yes1 c39])) ⟨rfl, rfl, rfl, rfl, rfl, rfl, rfl, trivial⟩
      refine q_iload_n F 3 dX5_areLike_30 rfl rfl ?_
      refine q_bipush (v := 10) F dX5_areLike_31 (by decide) ?_
      refine q_irem F dX5_areLike_33 (by decide) ?_
      refine q_iload F dX5_areLike_34 rfl ?_
      refine q_bipush (v := 10) F dX5_areLike_36 (by decide) ?_
      refine q_irem F dX5_areLike_38 (by decide) ?_
      refine q_icmp_ne F 46 dX5_areLike_39 rfl (fun c39 => ?_) (fun c39 => ?_)
      · refine q_iconst F dX5_areLike_46 hc_0 ?_
        refine q_istore F dX5_areLike_47 (by decide) rfl ?_
        refine q_iload_n F 3 dX5_areLike_49 rfl rfl ?_
        refine q_bipush (v := 10) F dX5_areLike_50 (by decide) ?_
        refine q_idiv F dX5_areLike_52 (by decide) ?_
        refine q_istore_n F 3 dX5_areLike_53 rfl (by decide) rfl ?_
        refine q_iload F dX5_areLike_54 rfl ?_
        refine q_bipush (v := 10) F dX5_areLike_56 (by decide) ?_
        refine q_idiv F dX5_areLike_58 (by decide) ?_
        refine q_istore F dX5_areLike_59 (by decide) rfl ?_
        refine q_iinc F (dN k) dX5_areLike_61 rfl (dN_dec k) (by decide) rfl ?_
        refine q_goto F 11 dX5_areLike_64 rfl ?_
        first
          | exact q_to (ih _ _ false (by omega) (by rw [← hL]; first | (rw [b2_0.mp c18]; rfl) | (rw [lk_no ((and1_iff _).mpr c27) c39, Bool.and_false]; rfl))) ⟨rfl, rfl, rfl, rfl, rfl, rfl, rfl, trivial⟩
          | exact q_to (ih _ _ true (by omega) (by rw [← hL, b2_n0 c18]; first | rw [lk_yes0 (fun z => ((and1_iff _).mp z) c27)] | rw [lk_yes1 c39])) ⟨rfl, rfl, rfl, rfl, rfl, rfl, rfl, trivial⟩
      refine q_iconst F dX5_areLike_42 hc_1 ?_
      refine q_goto F 47 dX5_areLike_43 rfl ?_
      refine q_istore F dX5_areLike_47 (by decide) rfl ?_
      refine q_iload_n F 3 dX5_areLike_49 rfl rfl ?_
      refine q_bipush (v := 10) F dX5_areLike_50 (by decide) ?_
      refine q_idiv F dX5_areLike_52 (by decide) ?_
      refine q_istore_n F 3 dX5_areLike_53 rfl (by decide) rfl ?_
      refine q_iload F dX5_areLike_54 rfl ?_
      refine q_bipush (v := 10) F dX5_areLike_56 (by decide) ?_
      refine q_idiv F dX5_areLike_58 (by decide) ?_
      refine q_istore F dX5_areLike_59 (by decide) rfl ?_
      refine q_iinc F (dN k) dX5_areLike_61 rfl (dN_dec k) (by decide) rfl ?_
      refine q_goto F 11 dX5_areLike_64 rfl ?_
      first
        | exact q_to (ih _ _ false (by omega) (by rw [← hL]; first | (rw [b2_0.mp c18]; rfl) | (rw [lk_no ((and1_iff _).mpr c27) c39, Bool.and_false]; rfl))) ⟨rfl, rfl, rfl, rfl, rfl, rfl, rfl, trivial⟩
        | exact q_to (ih _ _ true (by omega) (by rw [← hL, b2_n0 c18]; first | rw [lk_yes0 (fun z => ((and1_iff _).mp z) c27)] | rw [lk_yes1 c39])) ⟨rfl, rfl, rfl, rfl, rfl, rfl, rfl, trivial⟩
  exact q_to (L 4 o t true (Nat.le_refl _) rfl) ⟨rfl, rfl, rfl, rfl, rfl, rfl, rfl, trivial⟩

set_option maxHeartbeats 4000000 in
set_option maxRecDepth 100000 in
theorem c_X5_isFor {l : Launch} {g : hG} {X : va_W} {S : hS} {md : Nat} {ar : Nat → Nat} {sc : Nat → Int32} {M : Nat → Nat → Int32} (hM : mS S md ar sc M) {i k : Nat} {name port : Int32} (hi : i < 40) (h12 : M 12 i = nI k) (hk4 : k ≤ 4) : hMet l yX5_isFor wsX5_isFor rm_X5_isFor g X S [.ref md, .int (nI i), .int name, .int port] (pI (b2 (mt M i name port)) S) := by
  refine h_start (maxL := 8) (ret := (some .boolean)) (by decide) rfl (Nat.le_of_ble_eq_true rfl) ?_
  intro p e s m args below meth c F hr hinit
  refine q_aload_n F 0 dX5_isFor_0 rfl rfl ?_
  refine qg_X5_26 F (hM.1.2.1 9 rfl).1 hM.1.1 dX5_isFor_1 ?_
  refine q_iload_n F 1 dX5_isFor_4 rfl rfl ?_
  refine q_iald F (hM.1.2.1 9 rfl).2.1 (hM.1.2.1 9 rfl).2.2 rfl hi (by decide) dX5_isFor_5 ?_
  refine q_ma 9 (_) rfl hM rfl ?_
  refine q_iconst F dX5_isFor_6 hc_m1 ?_
  refine q_icmp_eq F 45 dX5_isFor_7 rfl (fun c7 => ?_) (fun c7 => ?_)
  · refine q_iconst F dX5_isFor_45 hc_0 ?_
    refine q_istore F dX5_isFor_46 (by decide) rfl ?_
    refine q_iconst F dX5_isFor_48 hc_0 ?_
    refine q_istore F dX5_isFor_49 (by decide) rfl ?_
    refine q_iconst F dX5_isFor_51 hc_4 ?_
    refine q_iload_n F 1 dX5_isFor_52 rfl rfl ?_
    refine q_imul F dX5_isFor_53 ?_
    refine q_top (v' := .int (nI (4 * i + 0))) ?_ (congrArg Value.int (four i))
    refine q_istore F dX5_isFor_54 (by decide) rfl ?_
    have h9 : M 9 i = -1 := c7
    have L : ∀ (r j : Nat), j + r = k → V p l e rm_X5_isFor s m args below meth c 8 g X (MQ below (hQ g X (pI (b2 (mt M i name port)) S)) args s rm_X5_isFor.cells rm_X5_isFor.slots (hA g)) S 0 0 [(0, .ref md), (1, .int (nI i)), (2, .int name), (3, .int port), (4, .int (b2 (anyN (fun k => ft M i name port k && !dn M i k) j))), (5, .int (b2 (anyN (fun k => ft M i name port k && dn M i k) j))), (6, .int (nI (4 * i + j)))] 56 [] := by
      intro r
      induction r with
      | zero =>
        intro j hjr
        have hjk : j = k := by omega
        refine q_iload F dX5_isFor_56 rfl ?_
        refine q_iconst F dX5_isFor_58 hc_4 ?_
        refine q_iload_n F 1 dX5_isFor_59 rfl rfl ?_
        refine q_imul F dX5_isFor_60 ?_
        refine q_aload_n F 0 dX5_isFor_61 rfl rfl ?_
        refine qg_X5_35 F (hM.1.2.1 12 rfl).1 hM.1.1 dX5_isFor_62 ?_
        refine q_iload_n F 1 dX5_isFor_65 rfl rfl ?_
        refine q_iald F (hM.1.2.1 12 rfl).2.1 (hM.1.2.1 12 rfl).2.2 rfl hi (by decide) dX5_isFor_66 ?_
        refine q_ma 12 (_) rfl hM rfl ?_
        refine q_iadd F dX5_isFor_67 ?_
        refine q_top (v' := .int (nI (4 * i + k))) ?_ (congrArg Value.int (by rw [h12, four, nI_add]))
        refine q_icmp_ge F 170 dX5_isFor_68 rfl (fun c68 => ?_) (fun c68 => ?_)
        · refine q_iload F dX5_isFor_170 rfl ?_
          refine q_if_eq F 184 dX5_isFor_172 rfl (fun c172 => ?_) (fun c172 => ?_)
          · refine q_iconst F dX5_isFor_184 hc_0 ?_
            exact (q_reti F hr rfl dX5_isFor_185 (Nat.le_of_ble_eq_true rfl) (Nat.le_of_ble_eq_true rfl) ⟨by rw [mt, if_pos h9]; unfold mtch sz; rw [h12, nI_clamp (by omega), ← hjk]; first | (rw [b2_0.mp c172]; rfl) | (rw [b2_n0 c172, b2_n0 c177]; rfl) | (rw [b2_n0 c172, b2_0.mp c177]; rfl), rfl⟩)
          refine q_iload F dX5_isFor_175 rfl ?_
          refine q_if_ne F 184 dX5_isFor_177 rfl (fun c177 => ?_) (fun c177 => ?_)
          · refine q_iconst F dX5_isFor_184 hc_0 ?_
            exact (q_reti F hr rfl dX5_isFor_185 (Nat.le_of_ble_eq_true rfl) (Nat.le_of_ble_eq_true rfl) ⟨by rw [mt, if_pos h9]; unfold mtch sz; rw [h12, nI_clamp (by omega), ← hjk]; first | (rw [b2_0.mp c172]; rfl) | (rw [b2_n0 c172, b2_n0 c177]; rfl) | (rw [b2_n0 c172, b2_0.mp c177]; rfl), rfl⟩)
          refine q_iconst F dX5_isFor_180 hc_1 ?_
          refine q_goto F 185 dX5_isFor_181 rfl ?_
          exact (q_reti F hr rfl dX5_isFor_185 (Nat.le_of_ble_eq_true rfl) (Nat.le_of_ble_eq_true rfl) ⟨by rw [mt, if_pos h9]; unfold mtch sz; rw [h12, nI_clamp (by omega), ← hjk]; first | (rw [b2_0.mp c172]; rfl) | (rw [b2_n0 c172, b2_n0 c177]; rfl) | (rw [b2_n0 c172, b2_0.mp c177]; rfl), rfl⟩)
        exact absurd c68 (gT rfl rfl (show 4 * i + k ≤ 4 * i + j by omega) (by omega))
      | succ r ih =>
        intro j hjr
        have hj : j < k := by omega
        have hft : ft M i name port j = (decide (M 15 (4 * i + j) = port) && like (M 14 (4 * i + j)) (M 13 (4 * i + j)) name) := rfl
        have hdn : dn M i j = decide (¬ M 16 (4 * i + j) = 0) := rfl
        refine q_iload F dX5_isFor_56 rfl ?_
        refine q_iconst F dX5_isFor_58 hc_4 ?_
        refine q_iload_n F 1 dX5_isFor_59 rfl rfl ?_
        refine q_imul F dX5_isFor_60 ?_
        refine q_aload_n F 0 dX5_isFor_61 rfl rfl ?_
        refine qg_X5_35 F (hM.1.2.1 12 rfl).1 hM.1.1 dX5_isFor_62 ?_
        refine q_iload_n F 1 dX5_isFor_65 rfl rfl ?_
        refine q_iald F (hM.1.2.1 12 rfl).2.1 (hM.1.2.1 12 rfl).2.2 rfl hi (by decide) dX5_isFor_66 ?_
        refine q_ma 12 (_) rfl hM rfl ?_
        refine q_iadd F dX5_isFor_67 ?_
        refine q_top (v' := .int (nI (4 * i + k))) ?_ (congrArg Value.int (by rw [h12, four, nI_add]))
        refine q_icmp_ge F 170 dX5_isFor_68 rfl (fun c68 => ?_) (fun c68 => ?_)
        · exact absurd c68 (gF rfl rfl (show 4 * i + j < 4 * i + k by omega) (by omega))
        refine q_aload_n F 0 dX5_isFor_71 rfl rfl ?_
        refine qg_X5_44 F (hM.1.2.1 15 rfl).1 hM.1.1 dX5_isFor_72 ?_
        refine q_iload F dX5_isFor_75 rfl ?_
        refine q_iald F (hM.1.2.1 15 rfl).2.1 (hM.1.2.1 15 rfl).2.2 rfl (show 4 * i + j < 160 by omega) (by decide) dX5_isFor_77 ?_
        refine q_ma 15 (_) rfl hM rfl ?_
        refine q_iload_n F 3 dX5_isFor_78 rfl rfl ?_
        refine q_icmp_ne F 107 dX5_isFor_79 rfl (fun c79 => ?_) (fun c79 => ?_)
        · refine q_iconst F dX5_isFor_107 hc_0 ?_
          refine q_istore F dX5_isFor_108 (by decide) rfl ?_
          refine q_iload F dX5_isFor_110 rfl ?_
          refine q_if_ne F 130 dX5_isFor_112 rfl (fun c112 => ?_) (fun c112 => ?_)
          · refine q_iconst F dX5_isFor_130 hc_1 ?_
            refine q_goto F 135 dX5_isFor_131 rfl ?_
            refine q_istore F dX5_isFor_135 (by decide) rfl ?_
            refine q_iload F dX5_isFor_137 rfl ?_
            refine q_if_ne F 157 dX5_isFor_139 rfl (fun c139 => ?_) (fun c139 => ?_)
            · refine q_iconst F dX5_isFor_157 hc_1 ?_
              refine q_goto F 162 dX5_isFor_158 rfl ?_
              refine q_istore F dX5_isFor_162 (by decide) rfl ?_
              refine q_iinc F (nI (4 * i + (j + 1))) dX5_isFor_164 rfl (nI_inc (4 * i + j)) (by decide) rfl ?_
              refine q_goto F 56 dX5_isFor_167 rfl ?_
              exact q_to (ih (j + 1) (by omega)) ⟨rfl, rfl, rfl, rfl, congrArg (fun z => some (Value.int z)) (by rw [anyN, hft, hdn]; simp_all [b2_0, b2]), congrArg (fun z => some (Value.int z)) (by rw [anyN, hft, hdn]; simp_all [b2_0, b2]), rfl, trivial⟩
            refine q_iload F dX5_isFor_142 rfl ?_
            refine q_if_eq F 161 dX5_isFor_144 rfl (fun c144 => ?_) (fun c144 => ?_)
            · refine q_iconst F dX5_isFor_161 hc_0 ?_
              refine q_istore F dX5_isFor_162 (by decide) rfl ?_
              refine q_iinc F (nI (4 * i + (j + 1))) dX5_isFor_164 rfl (nI_inc (4 * i + j)) (by decide) rfl ?_
              refine q_goto F 56 dX5_isFor_167 rfl ?_
              exact q_to (ih (j + 1) (by omega)) ⟨rfl, rfl, rfl, rfl, congrArg (fun z => some (Value.int z)) (by rw [anyN, hft, hdn]; simp_all [b2_0, b2]), congrArg (fun z => some (Value.int z)) (by rw [anyN, hft, hdn]; simp_all [b2_0, b2]), rfl, trivial⟩
            exact absurd c144 (by decide)
          refine q_iload F dX5_isFor_115 rfl ?_
          refine q_if_eq F 134 dX5_isFor_117 rfl (fun c117 => ?_) (fun c117 => ?_)
          · refine q_iconst F dX5_isFor_134 hc_0 ?_
            refine q_istore F dX5_isFor_135 (by decide) rfl ?_
            refine q_iload F dX5_isFor_137 rfl ?_
            refine q_if_ne F 157 dX5_isFor_139 rfl (fun c139 => ?_) (fun c139 => ?_)
            · refine q_iconst F dX5_isFor_157 hc_1 ?_
              refine q_goto F 162 dX5_isFor_158 rfl ?_
              refine q_istore F dX5_isFor_162 (by decide) rfl ?_
              refine q_iinc F (nI (4 * i + (j + 1))) dX5_isFor_164 rfl (nI_inc (4 * i + j)) (by decide) rfl ?_
              refine q_goto F 56 dX5_isFor_167 rfl ?_
              exact q_to (ih (j + 1) (by omega)) ⟨rfl, rfl, rfl, rfl, congrArg (fun z => some (Value.int z)) (by rw [anyN, hft, hdn]; simp_all [b2_0, b2]), congrArg (fun z => some (Value.int z)) (by rw [anyN, hft, hdn]; simp_all [b2_0, b2]), rfl, trivial⟩
            refine q_iload F dX5_isFor_142 rfl ?_
            refine q_if_eq F 161 dX5_isFor_144 rfl (fun c144 => ?_) (fun c144 => ?_)
            · refine q_iconst F dX5_isFor_161 hc_0 ?_
              refine q_istore F dX5_isFor_162 (by decide) rfl ?_
              refine q_iinc F (nI (4 * i + (j + 1))) dX5_isFor_164 rfl (nI_inc (4 * i + j)) (by decide) rfl ?_
              refine q_goto F 56 dX5_isFor_167 rfl ?_
              exact q_to (ih (j + 1) (by omega)) ⟨rfl, rfl, rfl, rfl, congrArg (fun z => some (Value.int z)) (by rw [anyN, hft, hdn]; simp_all [b2_0, b2]), congrArg (fun z => some (Value.int z)) (by rw [anyN, hft, hdn]; simp_all [b2_0, b2]), rfl, trivial⟩
            exact absurd c144 (by decide)
          exact absurd c117 (by decide)
        refine q_aload_n F 0 dX5_isFor_82 rfl rfl ?_
        refine qg_X5_38 F (hM.1.2.1 13 rfl).1 hM.1.1 dX5_isFor_83 ?_
        refine q_iload F dX5_isFor_86 rfl ?_
        refine q_iald F (hM.1.2.1 13 rfl).2.1 (hM.1.2.1 13 rfl).2.2 rfl (show 4 * i + j < 160 by omega) (by decide) dX5_isFor_88 ?_
        refine q_ma 13 (_) rfl hM rfl ?_
        refine q_iload_n F 2 dX5_isFor_89 rfl rfl ?_
        refine q_aload_n F 0 dX5_isFor_90 rfl rfl ?_
        refine qg_X5_41 F (hM.1.2.1 14 rfl).1 hM.1.1 dX5_isFor_91 ?_
        refine q_iload F dX5_isFor_94 rfl ?_
        refine q_iald F (hM.1.2.1 14 rfl).2.1 (hM.1.2.1 14 rfl).2.2 rfl (show 4 * i + j < 160 by omega) (by decide) dX5_isFor_96 ?_
        refine q_ma 14 (_) rfl hM rfl ?_
        refine q_callS_i F (c_X5_areLike) gX5_isFor_X5_areLike rfl hd_X5_areLike ⟨Nat.le_of_ble_eq_true rfl, Nat.le_of_ble_eq_true rfl⟩ rfl rfl (Nat.le_of_ble_eq_true rfl) dX5_isFor_97 ⟨Nat.le_of_ble_eq_true rfl, Nat.le_of_ble_eq_true rfl⟩ ?_
        refine q_if_eq F 107 dX5_isFor_100 rfl (fun c100 => ?_) (fun c100 => ?_)
        · refine q_iconst F dX5_isFor_107 hc_0 ?_
          refine q_istore F dX5_isFor_108 (by decide) rfl ?_
          refine q_iload F dX5_isFor_110 rfl ?_
          refine q_if_ne F 130 dX5_isFor_112 rfl (fun c112 => ?_) (fun c112 => ?_)
          · refine q_iconst F dX5_isFor_130 hc_1 ?_
            refine q_goto F 135 dX5_isFor_131 rfl ?_
            refine q_istore F dX5_isFor_135 (by decide) rfl ?_
            refine q_iload F dX5_isFor_137 rfl ?_
            refine q_if_ne F 157 dX5_isFor_139 rfl (fun c139 => ?_) (fun c139 => ?_)
            · refine q_iconst F dX5_isFor_157 hc_1 ?_
              refine q_goto F 162 dX5_isFor_158 rfl ?_
              refine q_istore F dX5_isFor_162 (by decide) rfl ?_
              refine q_iinc F (nI (4 * i + (j + 1))) dX5_isFor_164 rfl (nI_inc (4 * i + j)) (by decide) rfl ?_
              refine q_goto F 56 dX5_isFor_167 rfl ?_
              exact q_to (ih (j + 1) (by omega)) ⟨rfl, rfl, rfl, rfl, congrArg (fun z => some (Value.int z)) (by rw [anyN, hft, hdn]; simp_all [b2_0, b2]), congrArg (fun z => some (Value.int z)) (by rw [anyN, hft, hdn]; simp_all [b2_0, b2]), rfl, trivial⟩
            refine q_iload F dX5_isFor_142 rfl ?_
            refine q_if_eq F 161 dX5_isFor_144 rfl (fun c144 => ?_) (fun c144 => ?_)
            · refine q_iconst F dX5_isFor_161 hc_0 ?_
              refine q_istore F dX5_isFor_162 (by decide) rfl ?_
              refine q_iinc F (nI (4 * i + (j + 1))) dX5_isFor_164 rfl (nI_inc (4 * i + j)) (by decide) rfl ?_
              refine q_goto F 56 dX5_isFor_167 rfl ?_
              exact q_to (ih (j + 1) (by omega)) ⟨rfl, rfl, rfl, rfl, congrArg (fun z => some (Value.int z)) (by rw [anyN, hft, hdn]; simp_all [b2_0, b2]), congrArg (fun z => some (Value.int z)) (by rw [anyN, hft, hdn]; simp_all [b2_0, b2]), rfl, trivial⟩
            exact absurd c144 (by decide)
          refine q_iload F dX5_isFor_115 rfl ?_
          refine q_if_eq F 134 dX5_isFor_117 rfl (fun c117 => ?_) (fun c117 => ?_)
          · refine q_iconst F dX5_isFor_134 hc_0 ?_
            refine q_istore F dX5_isFor_135 (by decide) rfl ?_
            refine q_iload F dX5_isFor_137 rfl ?_
            refine q_if_ne F 157 dX5_isFor_139 rfl (fun c139 => ?_) (fun c139 => ?_)
            · refine q_iconst F dX5_isFor_157 hc_1 ?_
              refine q_goto F 162 dX5_isFor_158 rfl ?_
              refine q_istore F dX5_isFor_162 (by decide) rfl ?_
              refine q_iinc F (nI (4 * i + (j + 1))) dX5_isFor_164 rfl (nI_inc (4 * i + j)) (by decide) rfl ?_
              refine q_goto F 56 dX5_isFor_167 rfl ?_
              exact q_to (ih (j + 1) (by omega)) ⟨rfl, rfl, rfl, rfl, congrArg (fun z => some (Value.int z)) (by rw [anyN, hft, hdn]; simp_all [b2_0, b2]), congrArg (fun z => some (Value.int z)) (by rw [anyN, hft, hdn]; simp_all [b2_0, b2]), rfl, trivial⟩
            refine q_iload F dX5_isFor_142 rfl ?_
            refine q_if_eq F 161 dX5_isFor_144 rfl (fun c144 => ?_) (fun c144 => ?_)
            · refine q_iconst F dX5_isFor_161 hc_0 ?_
              refine q_istore F dX5_isFor_162 (by decide) rfl ?_
              refine q_iinc F (nI (4 * i + (j + 1))) dX5_isFor_164 rfl (nI_inc (4 * i + j)) (by decide) rfl ?_
              refine q_goto F 56 dX5_isFor_167 rfl ?_
              exact q_to (ih (j + 1) (by omega)) ⟨rfl, rfl, rfl, rfl, congrArg (fun z => some (Value.int z)) (by rw [anyN, hft, hdn]; simp_all [b2_0, b2]), congrArg (fun z => some (Value.int z)) (by rw [anyN, hft, hdn]; simp_all [b2_0, b2]), rfl, trivial⟩
            exact absurd c144 (by decide)
          exact absurd c117 (by decide)
        refine q_iconst F dX5_isFor_103 hc_1 ?_
        refine q_goto F 108 dX5_isFor_104 rfl ?_
        refine q_istore F dX5_isFor_108 (by decide) rfl ?_
        refine q_iload F dX5_isFor_110 rfl ?_
        refine q_if_ne F 130 dX5_isFor_112 rfl (fun c112 => ?_) (fun c112 => ?_)
        · refine q_iconst F dX5_isFor_130 hc_1 ?_
          refine q_goto F 135 dX5_isFor_131 rfl ?_
          refine q_istore F dX5_isFor_135 (by decide) rfl ?_
          refine q_iload F dX5_isFor_137 rfl ?_
          refine q_if_ne F 157 dX5_isFor_139 rfl (fun c139 => ?_) (fun c139 => ?_)
          · refine q_iconst F dX5_isFor_157 hc_1 ?_
            refine q_goto F 162 dX5_isFor_158 rfl ?_
            refine q_istore F dX5_isFor_162 (by decide) rfl ?_
            refine q_iinc F (nI (4 * i + (j + 1))) dX5_isFor_164 rfl (nI_inc (4 * i + j)) (by decide) rfl ?_
            refine q_goto F 56 dX5_isFor_167 rfl ?_
            exact q_to (ih (j + 1) (by omega)) ⟨rfl, rfl, rfl, rfl, congrArg (fun z => some (Value.int z)) (by rw [anyN, hft, hdn]; simp_all [b2_0, b2]), congrArg (fun z => some (Value.int z)) (by rw [anyN, hft, hdn]; simp_all [b2_0, b2]), rfl, trivial⟩
          refine q_iload F dX5_isFor_142 rfl ?_
          refine q_if_eq F 161 dX5_isFor_144 rfl (fun c144 => ?_) (fun c144 => ?_)
          · exact absurd c144 (by decide)
          refine q_aload_n F 0 dX5_isFor_147 rfl rfl ?_
          refine qg_X5_47 F (hM.1.2.1 16 rfl).1 hM.1.1 dX5_isFor_148 ?_
          refine q_iload F dX5_isFor_151 rfl ?_
          refine q_zald F (hM.1.2.1 16 rfl).2.1 (hM.1.2.1 16 rfl).2.2 rfl (show 4 * i + j < 160 by omega) (by decide) dX5_isFor_153 ?_
          refine q_ma 16 (_) rfl hM rfl ?_
          refine q_if_eq F 161 dX5_isFor_154 rfl (fun c154 => ?_) (fun c154 => ?_)
          · refine q_iconst F dX5_isFor_161 hc_0 ?_
            refine q_istore F dX5_isFor_162 (by decide) rfl ?_
            refine q_iinc F (nI (4 * i + (j + 1))) dX5_isFor_164 rfl (nI_inc (4 * i + j)) (by decide) rfl ?_
            refine q_goto F 56 dX5_isFor_167 rfl ?_
            exact q_to (ih (j + 1) (by omega)) ⟨rfl, rfl, rfl, rfl, congrArg (fun z => some (Value.int z)) (by rw [anyN, hft, hdn]; simp_all [b2_0, b2]), congrArg (fun z => some (Value.int z)) (by rw [anyN, hft, hdn]; simp_all [b2_0, b2]), rfl, trivial⟩
          refine q_iconst F dX5_isFor_157 hc_1 ?_
          refine q_goto F 162 dX5_isFor_158 rfl ?_
          refine q_istore F dX5_isFor_162 (by decide) rfl ?_
          refine q_iinc F (nI (4 * i + (j + 1))) dX5_isFor_164 rfl (nI_inc (4 * i + j)) (by decide) rfl ?_
          refine q_goto F 56 dX5_isFor_167 rfl ?_
          exact q_to (ih (j + 1) (by omega)) ⟨rfl, rfl, rfl, rfl, congrArg (fun z => some (Value.int z)) (by rw [anyN, hft, hdn]; simp_all [b2_0, b2]), congrArg (fun z => some (Value.int z)) (by rw [anyN, hft, hdn]; simp_all [b2_0, b2]), rfl, trivial⟩
        refine q_iload F dX5_isFor_115 rfl ?_
        refine q_if_eq F 134 dX5_isFor_117 rfl (fun c117 => ?_) (fun c117 => ?_)
        · exact absurd c117 (by decide)
        refine q_aload_n F 0 dX5_isFor_120 rfl rfl ?_
        refine qg_X5_47 F (hM.1.2.1 16 rfl).1 hM.1.1 dX5_isFor_121 ?_
        refine q_iload F dX5_isFor_124 rfl ?_
        refine q_zald F (hM.1.2.1 16 rfl).2.1 (hM.1.2.1 16 rfl).2.2 rfl (show 4 * i + j < 160 by omega) (by decide) dX5_isFor_126 ?_
        refine q_ma 16 (_) rfl hM rfl ?_
        refine q_if_ne F 134 dX5_isFor_127 rfl (fun c127 => ?_) (fun c127 => ?_)
        · refine q_iconst F dX5_isFor_134 hc_0 ?_
          refine q_istore F dX5_isFor_135 (by decide) rfl ?_
          refine q_iload F dX5_isFor_137 rfl ?_
          refine q_if_ne F 157 dX5_isFor_139 rfl (fun c139 => ?_) (fun c139 => ?_)
          · refine q_iconst F dX5_isFor_157 hc_1 ?_
            refine q_goto F 162 dX5_isFor_158 rfl ?_
            refine q_istore F dX5_isFor_162 (by decide) rfl ?_
            refine q_iinc F (nI (4 * i + (j + 1))) dX5_isFor_164 rfl (nI_inc (4 * i + j)) (by decide) rfl ?_
            refine q_goto F 56 dX5_isFor_167 rfl ?_
            exact q_to (ih (j + 1) (by omega)) ⟨rfl, rfl, rfl, rfl, congrArg (fun z => some (Value.int z)) (by rw [anyN, hft, hdn]; simp_all [b2_0, b2]), congrArg (fun z => some (Value.int z)) (by rw [anyN, hft, hdn]; simp_all [b2_0, b2]), rfl, trivial⟩
          refine q_iload F dX5_isFor_142 rfl ?_
          refine q_if_eq F 161 dX5_isFor_144 rfl (fun c144 => ?_) (fun c144 => ?_)
          · exact absurd c144 (by decide)
          refine q_aload_n F 0 dX5_isFor_147 rfl rfl ?_
          refine qg_X5_47 F (hM.1.2.1 16 rfl).1 hM.1.1 dX5_isFor_148 ?_
          refine q_iload F dX5_isFor_151 rfl ?_
          refine q_zald F (hM.1.2.1 16 rfl).2.1 (hM.1.2.1 16 rfl).2.2 rfl (show 4 * i + j < 160 by omega) (by decide) dX5_isFor_153 ?_
          refine q_ma 16 (_) rfl hM rfl ?_
          refine q_if_eq F 161 dX5_isFor_154 rfl (fun c154 => ?_) (fun c154 => ?_)
          · refine q_iconst F dX5_isFor_161 hc_0 ?_
            refine q_istore F dX5_isFor_162 (by decide) rfl ?_
            refine q_iinc F (nI (4 * i + (j + 1))) dX5_isFor_164 rfl (nI_inc (4 * i + j)) (by decide) rfl ?_
            refine q_goto F 56 dX5_isFor_167 rfl ?_
            exact q_to (ih (j + 1) (by omega)) ⟨rfl, rfl, rfl, rfl, congrArg (fun z => some (Value.int z)) (by rw [anyN, hft, hdn]; simp_all [b2_0, b2]), congrArg (fun z => some (Value.int z)) (by rw [anyN, hft, hdn]; simp_all [b2_0, b2]), rfl, trivial⟩
          refine q_iconst F dX5_isFor_157 hc_1 ?_
          refine q_goto F 162 dX5_isFor_158 rfl ?_
          refine q_istore F dX5_isFor_162 (by decide) rfl ?_
          refine q_iinc F (nI (4 * i + (j + 1))) dX5_isFor_164 rfl (nI_inc (4 * i + j)) (by decide) rfl ?_
          refine q_goto F 56 dX5_isFor_167 rfl ?_
          exact q_to (ih (j + 1) (by omega)) ⟨rfl, rfl, rfl, rfl, congrArg (fun z => some (Value.int z)) (by rw [anyN, hft, hdn]; simp_all [b2_0, b2]), congrArg (fun z => some (Value.int z)) (by rw [anyN, hft, hdn]; simp_all [b2_0, b2]), rfl, trivial⟩
        refine q_iconst F dX5_isFor_130 hc_1 ?_
        refine q_goto F 135 dX5_isFor_131 rfl ?_
        refine q_istore F dX5_isFor_135 (by decide) rfl ?_
        refine q_iload F dX5_isFor_137 rfl ?_
        refine q_if_ne F 157 dX5_isFor_139 rfl (fun c139 => ?_) (fun c139 => ?_)
        · refine q_iconst F dX5_isFor_157 hc_1 ?_
          refine q_goto F 162 dX5_isFor_158 rfl ?_
          refine q_istore F dX5_isFor_162 (by decide) rfl ?_
          refine q_iinc F (nI (4 * i + (j + 1))) dX5_isFor_164 rfl (nI_inc (4 * i + j)) (by decide) rfl ?_
          refine q_goto F 56 dX5_isFor_167 rfl ?_
          exact q_to (ih (j + 1) (by omega)) ⟨rfl, rfl, rfl, rfl, congrArg (fun z => some (Value.int z)) (by rw [anyN, hft, hdn]; simp_all [b2_0, b2]), congrArg (fun z => some (Value.int z)) (by rw [anyN, hft, hdn]; simp_all [b2_0, b2]), rfl, trivial⟩
        refine q_iload F dX5_isFor_142 rfl ?_
        refine q_if_eq F 161 dX5_isFor_144 rfl (fun c144 => ?_) (fun c144 => ?_)
        · exact absurd c144 (by decide)
        refine q_aload_n F 0 dX5_isFor_147 rfl rfl ?_
        refine qg_X5_47 F (hM.1.2.1 16 rfl).1 hM.1.1 dX5_isFor_148 ?_
        refine q_iload F dX5_isFor_151 rfl ?_
        refine q_zald F (hM.1.2.1 16 rfl).2.1 (hM.1.2.1 16 rfl).2.2 rfl (show 4 * i + j < 160 by omega) (by decide) dX5_isFor_153 ?_
        refine q_ma 16 (_) rfl hM rfl ?_
        refine q_if_eq F 161 dX5_isFor_154 rfl (fun c154 => ?_) (fun c154 => ?_)
        · refine q_iconst F dX5_isFor_161 hc_0 ?_
          refine q_istore F dX5_isFor_162 (by decide) rfl ?_
          refine q_iinc F (nI (4 * i + (j + 1))) dX5_isFor_164 rfl (nI_inc (4 * i + j)) (by decide) rfl ?_
          refine q_goto F 56 dX5_isFor_167 rfl ?_
          exact q_to (ih (j + 1) (by omega)) ⟨rfl, rfl, rfl, rfl, congrArg (fun z => some (Value.int z)) (by rw [anyN, hft, hdn]; simp_all [b2_0, b2]), congrArg (fun z => some (Value.int z)) (by rw [anyN, hft, hdn]; simp_all [b2_0, b2]), rfl, trivial⟩
        refine q_iconst F dX5_isFor_157 hc_1 ?_
        refine q_goto F 162 dX5_isFor_158 rfl ?_
        refine q_istore F dX5_isFor_162 (by decide) rfl ?_
        refine q_iinc F (nI (4 * i + (j + 1))) dX5_isFor_164 rfl (nI_inc (4 * i + j)) (by decide) rfl ?_
        refine q_goto F 56 dX5_isFor_167 rfl ?_
        exact q_to (ih (j + 1) (by omega)) ⟨rfl, rfl, rfl, rfl, congrArg (fun z => some (Value.int z)) (by rw [anyN, hft, hdn]; simp_all [b2_0, b2]), congrArg (fun z => some (Value.int z)) (by rw [anyN, hft, hdn]; simp_all [b2_0, b2]), rfl, trivial⟩
    exact q_to (L k 0 (by omega)) ⟨rfl, rfl, rfl, rfl, rfl, rfl, rfl, trivial⟩
  refine q_aload_n F 0 dX5_isFor_10 rfl rfl ?_
  refine qg_X5_32 F (hM.1.2.1 11 rfl).1 hM.1.1 dX5_isFor_11 ?_
  refine q_iload_n F 1 dX5_isFor_14 rfl rfl ?_
  refine q_iald F (hM.1.2.1 11 rfl).2.1 (hM.1.2.1 11 rfl).2.2 rfl hi (by decide) dX5_isFor_15 ?_
  refine q_ma 11 (_) rfl hM rfl ?_
  refine q_iload_n F 3 dX5_isFor_16 rfl rfl ?_
  refine q_icmp_ne F 43 dX5_isFor_17 rfl (fun c17 => ?_) (fun c17 => ?_)
  · refine q_iconst F dX5_isFor_43 hc_0 ?_
    exact (q_reti F hr rfl dX5_isFor_44 (Nat.le_of_ble_eq_true rfl) (Nat.le_of_ble_eq_true rfl) ⟨by rw [mt, if_neg c7]; first | (rw [decide_eq_false c17]; rfl) | (rw [decide_eq_true c17, decide_eq_false c36]; rfl) | (rw [decide_eq_true c17, decide_eq_true c36]; rfl), rfl⟩)
  refine q_aload_n F 0 dX5_isFor_20 rfl rfl ?_
  refine qg_X5_29 F (hM.1.2.1 10 rfl).1 hM.1.1 dX5_isFor_21 ?_
  refine q_iload_n F 1 dX5_isFor_24 rfl rfl ?_
  refine q_iald F (hM.1.2.1 10 rfl).2.1 (hM.1.2.1 10 rfl).2.2 rfl hi (by decide) dX5_isFor_25 ?_
  refine q_ma 10 (_) rfl hM rfl ?_
  refine q_iload_n F 2 dX5_isFor_26 rfl rfl ?_
  refine q_aload_n F 0 dX5_isFor_27 rfl rfl ?_
  refine qg_X5_26 F (hM.1.2.1 9 rfl).1 hM.1.1 dX5_isFor_28 ?_
  refine q_iload_n F 1 dX5_isFor_31 rfl rfl ?_
  refine q_iald F (hM.1.2.1 9 rfl).2.1 (hM.1.2.1 9 rfl).2.2 rfl hi (by decide) dX5_isFor_32 ?_
  refine q_ma 9 (_) rfl hM rfl ?_
  refine q_callS_i F (c_X5_hash) gX5_isFor_X5_hash rfl hd_X5_hash ⟨Nat.le_of_ble_eq_true rfl, Nat.le_of_ble_eq_true rfl⟩ rfl rfl (Nat.le_of_ble_eq_true rfl) dX5_isFor_33 ⟨Nat.le_of_ble_eq_true rfl, Nat.le_of_ble_eq_true rfl⟩ ?_
  refine q_icmp_ne F 43 dX5_isFor_36 rfl (fun c36 => ?_) (fun c36 => ?_)
  · refine q_iconst F dX5_isFor_43 hc_0 ?_
    exact (q_reti F hr rfl dX5_isFor_44 (Nat.le_of_ble_eq_true rfl) (Nat.le_of_ble_eq_true rfl) ⟨by rw [mt, if_neg c7]; first | (rw [decide_eq_false c17]; rfl) | (rw [decide_eq_true c17, decide_eq_false c36]; rfl) | (rw [decide_eq_true c17, decide_eq_true c36]; rfl), rfl⟩)
  refine q_iconst F dX5_isFor_39 hc_1 ?_
  refine q_goto F 44 dX5_isFor_40 rfl ?_
  exact (q_reti F hr rfl dX5_isFor_44 (Nat.le_of_ble_eq_true rfl) (Nat.le_of_ble_eq_true rfl) ⟨by rw [mt, if_neg c7]; first | (rw [decide_eq_false c17]; rfl) | (rw [decide_eq_true c17, decide_eq_false c36]; rfl) | (rw [decide_eq_true c17, decide_eq_true c36]; rfl), rfl⟩)

set_option maxHeartbeats 4000000 in
set_option maxRecDepth 100000 in
theorem c_X5_isRevoked {l : Launch} {g : hG} {X : va_W} {S : hS} {md : Nat} {ar : Nat → Nat} {sc : Nat → Int32} {M : Nat → Nat → Int32} (hM : mS S md ar sc M) {ns : Nat} (hs : sc 25 = nI ns) (hs20 : ns ≤ 20) {ci : Nat} (hci : ci < 20) : hMet l yX5_isRevoked wsX5_isRevoked rm_X5_isRevoked g X S [.ref md, .int (nI ci)] (pI (b2 (rv M ns ci)) S) := by
  refine h_start (maxL := 4) (ret := (some .boolean)) (by decide) rfl (Nat.le_of_ble_eq_true rfl) ?_
  intro p e s m args below meth c F hr hinit
  refine q_iconst F dX5_isRevoked_0 hc_0 ?_
  refine q_istore_n F 2 dX5_isRevoked_1 rfl (by decide) rfl ?_
  refine q_iconst F dX5_isRevoked_2 hc_0 ?_
  refine q_istore_n F 3 dX5_isRevoked_3 rfl (by decide) rfl ?_
  have L : ∀ (r j : Nat), j + r = ns → V p l e rm_X5_isRevoked s m args below meth c 4 g X (MQ below (hQ g X (pI (b2 (rv M ns ci)) S)) args s rm_X5_isRevoked.cells rm_X5_isRevoked.slots (hA g)) S 0 0 [(0, .ref md), (1, .int (nI ci)), (2, .int (b2 (anyN (sp M ci) j))), (3, .int (nI j))] 4 [] := by
    intro r
    induction r with
    | zero =>
      intro j hjr
      have hjk : j = ns := by omega
      refine q_iload_n F 3 dX5_isRevoked_4 rfl rfl ?_
      refine q_aload_n F 0 dX5_isRevoked_5 rfl rfl ?_
      refine qg_X5_145 F hM.1.1 dX5_isRevoked_6 ?_
      refine q_mg 25 (nI ns) rfl hM hs ?_
      refine q_icmp_ge F 67 dX5_isRevoked_9 rfl (fun c9 => ?_) (fun c9 => ?_)
      · refine q_iload_n F 2 dX5_isRevoked_67 rfl rfl ?_
        exact (q_reti F hr (b2_nar _) dX5_isRevoked_68 (Nat.le_of_ble_eq_true rfl) (Nat.le_of_ble_eq_true rfl) ⟨by rw [rv, hjk], rfl⟩)
      exact absurd c9 (gT rfl rfl (show ns ≤ j by omega) (by omega))
    | succ r ih =>
      intro j hjr
      have hj : j < ns := by omega
      have hsp : sp M ci j = (decide (M 26 j = M 18 ci) && inR (M 22 ci) (M 27 j) (M 28 j)) := rfl
      refine q_iload_n F 3 dX5_isRevoked_4 rfl rfl ?_
      refine q_aload_n F 0 dX5_isRevoked_5 rfl rfl ?_
      refine qg_X5_145 F hM.1.1 dX5_isRevoked_6 ?_
      refine q_mg 25 (nI ns) rfl hM hs ?_
      refine q_icmp_ge F 67 dX5_isRevoked_9 rfl (fun c9 => ?_) (fun c9 => ?_)
      · exact absurd c9 (gF rfl rfl hj (by omega))
      refine q_iload_n F 2 dX5_isRevoked_12 rfl rfl ?_
      refine q_if_ne F 55 dX5_isRevoked_13 rfl (fun c13 => ?_) (fun c13 => ?_)
      · refine q_iconst F dX5_isRevoked_55 hc_1 ?_
        refine q_goto F 60 dX5_isRevoked_56 rfl ?_
        refine q_istore_n F 2 dX5_isRevoked_60 rfl (by decide) rfl ?_
        refine q_iinc F (nI (j + 1)) dX5_isRevoked_61 rfl (nI_inc j) (by decide) rfl ?_
        refine q_goto F 4 dX5_isRevoked_64 rfl ?_
        exact q_to (ih (j + 1) (by omega)) ⟨rfl, rfl, congrArg (fun z => some (Value.int z)) (by rw [anyN, hsp]; first | (rw [b2_n0 c13]; rfl) | (rw [b2_0.mp c13, decide_eq_false c28]; rfl) | (rw [b2_0.mp c13, decide_eq_true c28, b2_0.mp c52]; rfl) | (rw [b2_0.mp c13, decide_eq_true c28, b2_n0 c52]; rfl)), rfl, trivial⟩
      refine q_aload_n F 0 dX5_isRevoked_16 rfl rfl ?_
      refine qg_X5_72 F (hM.1.2.1 26 rfl).1 hM.1.1 dX5_isRevoked_17 ?_
      refine q_iload_n F 3 dX5_isRevoked_20 rfl rfl ?_
      refine q_iald F (hM.1.2.1 26 rfl).2.1 (hM.1.2.1 26 rfl).2.2 rfl (show j < 20 by omega) (by decide) dX5_isRevoked_21 ?_
      refine q_ma 26 (_) rfl hM rfl ?_
      refine q_aload_n F 0 dX5_isRevoked_22 rfl rfl ?_
      refine qg_X5_51 F (hM.1.2.1 18 rfl).1 hM.1.1 dX5_isRevoked_23 ?_
      refine q_iload_n F 1 dX5_isRevoked_26 rfl rfl ?_
      refine q_iald F (hM.1.2.1 18 rfl).2.1 (hM.1.2.1 18 rfl).2.2 rfl hci (by decide) dX5_isRevoked_27 ?_
      refine q_ma 18 (_) rfl hM rfl ?_
      refine q_icmp_ne F 59 dX5_isRevoked_28 rfl (fun c28 => ?_) (fun c28 => ?_)
      · refine q_iconst F dX5_isRevoked_59 hc_0 ?_
        refine q_istore_n F 2 dX5_isRevoked_60 rfl (by decide) rfl ?_
        refine q_iinc F (nI (j + 1)) dX5_isRevoked_61 rfl (nI_inc j) (by decide) rfl ?_
        refine q_goto F 4 dX5_isRevoked_64 rfl ?_
        exact q_to (ih (j + 1) (by omega)) ⟨rfl, rfl, congrArg (fun z => some (Value.int z)) (by rw [anyN, hsp]; first | (rw [b2_n0 c13]; rfl) | (rw [b2_0.mp c13, decide_eq_false c28]; rfl) | (rw [b2_0.mp c13, decide_eq_true c28, b2_0.mp c52]; rfl) | (rw [b2_0.mp c13, decide_eq_true c28, b2_n0 c52]; rfl)), rfl, trivial⟩
      refine q_aload_n F 0 dX5_isRevoked_31 rfl rfl ?_
      refine qg_X5_63 F (hM.1.2.1 22 rfl).1 hM.1.1 dX5_isRevoked_32 ?_
      refine q_iload_n F 1 dX5_isRevoked_35 rfl rfl ?_
      refine q_iald F (hM.1.2.1 22 rfl).2.1 (hM.1.2.1 22 rfl).2.2 rfl hci (by decide) dX5_isRevoked_36 ?_
      refine q_ma 22 (_) rfl hM rfl ?_
      refine q_aload_n F 0 dX5_isRevoked_37 rfl rfl ?_
      refine qg_X5_75 F (hM.1.2.1 27 rfl).1 hM.1.1 dX5_isRevoked_38 ?_
      refine q_iload_n F 3 dX5_isRevoked_41 rfl rfl ?_
      refine q_iald F (hM.1.2.1 27 rfl).2.1 (hM.1.2.1 27 rfl).2.2 rfl (show j < 20 by omega) (by decide) dX5_isRevoked_42 ?_
      refine q_ma 27 (_) rfl hM rfl ?_
      refine q_aload_n F 0 dX5_isRevoked_43 rfl rfl ?_
      refine qg_X5_78 F (hM.1.2.1 28 rfl).1 hM.1.1 dX5_isRevoked_44 ?_
      refine q_iload_n F 3 dX5_isRevoked_47 rfl rfl ?_
      refine q_iald F (hM.1.2.1 28 rfl).2.1 (hM.1.2.1 28 rfl).2.2 rfl (show j < 20 by omega) (by decide) dX5_isRevoked_48 ?_
      refine q_ma 28 (_) rfl hM rfl ?_
      refine q_callS_i F (c_X5_isIn) gX5_isRevoked_X5_isIn rfl hd_X5_isIn ⟨Nat.le_of_ble_eq_true rfl, Nat.le_of_ble_eq_true rfl⟩ rfl rfl (Nat.le_of_ble_eq_true rfl) dX5_isRevoked_49 ⟨Nat.le_of_ble_eq_true rfl, Nat.le_of_ble_eq_true rfl⟩ ?_
      refine q_if_eq F 59 dX5_isRevoked_52 rfl (fun c52 => ?_) (fun c52 => ?_)
      · refine q_iconst F dX5_isRevoked_59 hc_0 ?_
        refine q_istore_n F 2 dX5_isRevoked_60 rfl (by decide) rfl ?_
        refine q_iinc F (nI (j + 1)) dX5_isRevoked_61 rfl (nI_inc j) (by decide) rfl ?_
        refine q_goto F 4 dX5_isRevoked_64 rfl ?_
        exact q_to (ih (j + 1) (by omega)) ⟨rfl, rfl, congrArg (fun z => some (Value.int z)) (by rw [anyN, hsp]; first | (rw [b2_n0 c13]; rfl) | (rw [b2_0.mp c13, decide_eq_false c28]; rfl) | (rw [b2_0.mp c13, decide_eq_true c28, b2_0.mp c52]; rfl) | (rw [b2_0.mp c13, decide_eq_true c28, b2_n0 c52]; rfl)), rfl, trivial⟩
      refine q_iconst F dX5_isRevoked_55 hc_1 ?_
      refine q_goto F 60 dX5_isRevoked_56 rfl ?_
      refine q_istore_n F 2 dX5_isRevoked_60 rfl (by decide) rfl ?_
      refine q_iinc F (nI (j + 1)) dX5_isRevoked_61 rfl (nI_inc j) (by decide) rfl ?_
      refine q_goto F 4 dX5_isRevoked_64 rfl ?_
      exact q_to (ih (j + 1) (by omega)) ⟨rfl, rfl, congrArg (fun z => some (Value.int z)) (by rw [anyN, hsp]; first | (rw [b2_n0 c13]; rfl) | (rw [b2_0.mp c13, decide_eq_false c28]; rfl) | (rw [b2_0.mp c13, decide_eq_true c28, b2_0.mp c52]; rfl) | (rw [b2_0.mp c13, decide_eq_true c28, b2_n0 c52]; rfl)), rfl, trivial⟩
  exact q_to (L ns 0 (by omega)) ⟨rfl, rfl, rfl, rfl, trivial⟩

set_option maxHeartbeats 4000000 in
set_option maxRecDepth 100000 in
theorem c_X5_has {l : Launch} {g : hG} {X : va_W} {S : hS} {md : Nat} {ar : Nat → Nat} {sc : Nat → Int32} {M : Nat → Nat → Int32} (hM : mS S md ar sc M) {n : Nat} (hn : sc 4 = nI n) (hn40 : n ≤ 40) (hsz : ∀ i, i < n → ∃ k, k ≤ 4 ∧ M 12 i = nI k) {mk ky name port : Int32} {isAny : Bool} : hMet l yX5_has wsX5_has rm_X5_has g X S [.ref md, .int mk, .int ky, .int (b2 isAny), .int name, .int port] (pI (b2 (anyN (ln (sc 1) M mk ky isAny name port) n)) S) := by
  refine h_start (maxL := 8) (ret := (some .boolean)) (by decide) rfl (Nat.le_of_ble_eq_true rfl) ?_
  intro p e s m args below meth c F hr hinit
  refine q_iconst F dX5_has_0 hc_0 ?_
  refine q_istore F dX5_has_1 (by decide) rfl ?_
  refine q_iconst F dX5_has_3 hc_0 ?_
  refine q_istore F dX5_has_4 (by decide) rfl ?_
  have L : ∀ (r j : Nat), j + r = n → V p l e rm_X5_has s m args below meth c 8 g X (MQ below (hQ g X (pI (b2 (anyN (ln (sc 1) M mk ky isAny name port) n)) S)) args s rm_X5_has.cells rm_X5_has.slots (hA g)) S 0 0 [(0, .ref md), (1, .int mk), (2, .int ky), (3, .int (b2 isAny)), (4, .int name), (5, .int port), (6, .int (b2 (anyN (ln (sc 1) M mk ky isAny name port) j))), (7, .int (nI j))] 6 [] := by
    intro r
    induction r with
    | zero =>
      intro j hjr
      have hjk : j = n := by omega
      refine q_iload F dX5_has_6 rfl ?_
      refine q_aload_n F 0 dX5_has_8 rfl rfl ?_
      refine qg_X5_91 F hM.1.1 dX5_has_9 ?_
      refine q_mg 4 (nI n) rfl hM hn ?_
      refine q_icmp_ge F 81 dX5_has_12 rfl (fun c12 => ?_) (fun c12 => ?_)
      · refine q_iload F dX5_has_81 rfl ?_
        exact (q_reti F hr (b2_nar _) dX5_has_83 (Nat.le_of_ble_eq_true rfl) (Nat.le_of_ble_eq_true rfl) ⟨by rw [hjk], rfl⟩)
      exact absurd c12 (gT rfl rfl (show n ≤ j by omega) (by omega))
    | succ r ih =>
      intro j hjr
      have hj : j < n := by omega
      have hi40 : j < 40 := by omega
      obtain ⟨k, hk4, h12⟩ := hsz j hj
      have hln : ln (sc 1) M mk ky isAny name port j = (decide (M 6 j = mk) && decide (M 5 j = ky) && (isAny || !en (sc 1) (M 8 j)) && mt M j name port) := rfl
      refine q_iload F dX5_has_6 rfl ?_
      refine q_aload_n F 0 dX5_has_8 rfl rfl ?_
      refine qg_X5_91 F hM.1.1 dX5_has_9 ?_
      refine q_mg 4 (nI n) rfl hM hn ?_
      refine q_icmp_ge F 81 dX5_has_12 rfl (fun c12 => ?_) (fun c12 => ?_)
      · exact absurd c12 (gF rfl rfl hj (by omega))
      refine q_iload F dX5_has_15 rfl ?_
      refine q_if_ne F 68 dX5_has_17 rfl (fun c17 => ?_) (fun c17 => ?_)
      · refine q_iconst F dX5_has_68 hc_1 ?_
        refine q_goto F 73 dX5_has_69 rfl ?_
        refine q_istore F dX5_has_73 (by decide) rfl ?_
        refine q_iinc F (nI (j + 1)) dX5_has_75 rfl (nI_inc j) (by decide) rfl ?_
        refine q_goto F 6 dX5_has_78 rfl ?_
        exact q_to (ih (j + 1) (by omega)) ⟨rfl, rfl, rfl, rfl, rfl, rfl, congrArg (fun z => some (Value.int z)) (by rw [anyN, hln]; first | (rw [b2_n0 c17]; rfl) | (rw [b2_0.mp c17, decide_eq_false c28]; rfl) | (rw [b2_0.mp c17, decide_eq_false c39, Bool.and_false]; rfl) | (rw [b2_0.mp c17, decide_eq_true c28, decide_eq_true c39, b2_0.mp c43, b2_n0 c52]; rfl) | (rw [b2_0.mp c17, b2_0.mp c65, Bool.and_false]; rfl) | (rw [b2_0.mp c17, decide_eq_true c28, decide_eq_true c39, b2_n0 c43, b2_n0 c65]; rfl) | (rw [b2_0.mp c17, decide_eq_true c28, decide_eq_true c39, b2_0.mp c43, b2_0.mp c52, b2_n0 c65]; rfl)), rfl, trivial⟩
      refine q_aload_n F 0 dX5_has_20 rfl rfl ?_
      refine qg_X5_17 F (hM.1.2.1 6 rfl).1 hM.1.1 dX5_has_21 ?_
      refine q_iload F dX5_has_24 rfl ?_
      refine q_iald F (hM.1.2.1 6 rfl).2.1 (hM.1.2.1 6 rfl).2.2 rfl hi40 (by decide) dX5_has_26 ?_
      refine q_ma 6 (_) rfl hM rfl ?_
      refine q_iload_n F 1 dX5_has_27 rfl rfl ?_
      refine q_icmp_ne F 72 dX5_has_28 rfl (fun c28 => ?_) (fun c28 => ?_)
      · refine q_iconst F dX5_has_72 hc_0 ?_
        refine q_istore F dX5_has_73 (by decide) rfl ?_
        refine q_iinc F (nI (j + 1)) dX5_has_75 rfl (nI_inc j) (by decide) rfl ?_
        refine q_goto F 6 dX5_has_78 rfl ?_
        exact q_to (ih (j + 1) (by omega)) ⟨rfl, rfl, rfl, rfl, rfl, rfl, congrArg (fun z => some (Value.int z)) (by rw [anyN, hln]; first | (rw [b2_n0 c17]; rfl) | (rw [b2_0.mp c17, decide_eq_false c28]; rfl) | (rw [b2_0.mp c17, decide_eq_false c39, Bool.and_false]; rfl) | (rw [b2_0.mp c17, decide_eq_true c28, decide_eq_true c39, b2_0.mp c43, b2_n0 c52]; rfl) | (rw [b2_0.mp c17, b2_0.mp c65, Bool.and_false]; rfl) | (rw [b2_0.mp c17, decide_eq_true c28, decide_eq_true c39, b2_n0 c43, b2_n0 c65]; rfl) | (rw [b2_0.mp c17, decide_eq_true c28, decide_eq_true c39, b2_0.mp c43, b2_0.mp c52, b2_n0 c65]; rfl)), rfl, trivial⟩
      refine q_aload_n F 0 dX5_has_31 rfl rfl ?_
      refine qg_X5_13 F (hM.1.2.1 5 rfl).1 hM.1.1 dX5_has_32 ?_
      refine q_iload F dX5_has_35 rfl ?_
      refine q_iald F (hM.1.2.1 5 rfl).2.1 (hM.1.2.1 5 rfl).2.2 rfl hi40 (by decide) dX5_has_37 ?_
      refine q_ma 5 (_) rfl hM rfl ?_
      refine q_iload_n F 2 dX5_has_38 rfl rfl ?_
      refine q_icmp_ne F 72 dX5_has_39 rfl (fun c39 => ?_) (fun c39 => ?_)
      · refine q_iconst F dX5_has_72 hc_0 ?_
        refine q_istore F dX5_has_73 (by decide) rfl ?_
        refine q_iinc F (nI (j + 1)) dX5_has_75 rfl (nI_inc j) (by decide) rfl ?_
        refine q_goto F 6 dX5_has_78 rfl ?_
        exact q_to (ih (j + 1) (by omega)) ⟨rfl, rfl, rfl, rfl, rfl, rfl, congrArg (fun z => some (Value.int z)) (by rw [anyN, hln]; first | (rw [b2_n0 c17]; rfl) | (rw [b2_0.mp c17, decide_eq_false c28]; rfl) | (rw [b2_0.mp c17, decide_eq_false c39, Bool.and_false]; rfl) | (rw [b2_0.mp c17, decide_eq_true c28, decide_eq_true c39, b2_0.mp c43, b2_n0 c52]; rfl) | (rw [b2_0.mp c17, b2_0.mp c65, Bool.and_false]; rfl) | (rw [b2_0.mp c17, decide_eq_true c28, decide_eq_true c39, b2_n0 c43, b2_n0 c65]; rfl) | (rw [b2_0.mp c17, decide_eq_true c28, decide_eq_true c39, b2_0.mp c43, b2_0.mp c52, b2_n0 c65]; rfl)), rfl, trivial⟩
      refine q_iload_n F 3 dX5_has_42 rfl rfl ?_
      refine q_if_ne F 55 dX5_has_43 rfl (fun c43 => ?_) (fun c43 => ?_)
      · refine q_aload_n F 0 dX5_has_55 rfl rfl ?_
        refine q_iload F dX5_has_56 rfl ?_
        refine q_iload F dX5_has_58 rfl ?_
        refine q_iload F dX5_has_60 rfl ?_
        refine q_callV_i F (c_X5_isFor hM hi40 h12 hk4) gX5_has_X5_isFor rfl hd_X5_isFor ⟨Nat.le_of_ble_eq_true rfl, Nat.le_of_ble_eq_true rfl⟩ hM.1.1 rfl rfl rfl (Nat.le_of_ble_eq_true rfl) dX5_has_62 ⟨Nat.le_of_ble_eq_true rfl, Nat.le_of_ble_eq_true rfl⟩ ?_
        refine q_if_eq F 72 dX5_has_65 rfl (fun c65 => ?_) (fun c65 => ?_)
        · refine q_iconst F dX5_has_72 hc_0 ?_
          refine q_istore F dX5_has_73 (by decide) rfl ?_
          refine q_iinc F (nI (j + 1)) dX5_has_75 rfl (nI_inc j) (by decide) rfl ?_
          refine q_goto F 6 dX5_has_78 rfl ?_
          exact q_to (ih (j + 1) (by omega)) ⟨rfl, rfl, rfl, rfl, rfl, rfl, congrArg (fun z => some (Value.int z)) (by rw [anyN, hln]; first | (rw [b2_n0 c17]; rfl) | (rw [b2_0.mp c17, decide_eq_false c28]; rfl) | (rw [b2_0.mp c17, decide_eq_false c39, Bool.and_false]; rfl) | (rw [b2_0.mp c17, decide_eq_true c28, decide_eq_true c39, b2_0.mp c43, b2_n0 c52]; rfl) | (rw [b2_0.mp c17, b2_0.mp c65, Bool.and_false]; rfl) | (rw [b2_0.mp c17, decide_eq_true c28, decide_eq_true c39, b2_n0 c43, b2_n0 c65]; rfl) | (rw [b2_0.mp c17, decide_eq_true c28, decide_eq_true c39, b2_0.mp c43, b2_0.mp c52, b2_n0 c65]; rfl)), rfl, trivial⟩
        refine q_iconst F dX5_has_68 hc_1 ?_
        refine q_goto F 73 dX5_has_69 rfl ?_
        refine q_istore F dX5_has_73 (by decide) rfl ?_
        refine q_iinc F (nI (j + 1)) dX5_has_75 rfl (nI_inc j) (by decide) rfl ?_
        refine q_goto F 6 dX5_has_78 rfl ?_
        exact q_to (ih (j + 1) (by omega)) ⟨rfl, rfl, rfl, rfl, rfl, rfl, congrArg (fun z => some (Value.int z)) (by rw [anyN, hln]; first | (rw [b2_n0 c17]; rfl) | (rw [b2_0.mp c17, decide_eq_false c28]; rfl) | (rw [b2_0.mp c17, decide_eq_false c39, Bool.and_false]; rfl) | (rw [b2_0.mp c17, decide_eq_true c28, decide_eq_true c39, b2_0.mp c43, b2_n0 c52]; rfl) | (rw [b2_0.mp c17, b2_0.mp c65, Bool.and_false]; rfl) | (rw [b2_0.mp c17, decide_eq_true c28, decide_eq_true c39, b2_n0 c43, b2_n0 c65]; rfl) | (rw [b2_0.mp c17, decide_eq_true c28, decide_eq_true c39, b2_0.mp c43, b2_0.mp c52, b2_n0 c65]; rfl)), rfl, trivial⟩
      refine q_aload_n F 0 dX5_has_46 rfl rfl ?_
      refine q_iload F dX5_has_47 rfl ?_
      refine q_callV_i F (c_X5_hasEnded hM hi40) gX5_has_X5_hasEnded rfl hd_X5_hasEnded ⟨Nat.le_of_ble_eq_true rfl, Nat.le_of_ble_eq_true rfl⟩ hM.1.1 rfl rfl rfl (Nat.le_of_ble_eq_true rfl) dX5_has_49 ⟨Nat.le_of_ble_eq_true rfl, Nat.le_of_ble_eq_true rfl⟩ ?_
      refine q_if_ne F 72 dX5_has_52 rfl (fun c52 => ?_) (fun c52 => ?_)
      · refine q_iconst F dX5_has_72 hc_0 ?_
        refine q_istore F dX5_has_73 (by decide) rfl ?_
        refine q_iinc F (nI (j + 1)) dX5_has_75 rfl (nI_inc j) (by decide) rfl ?_
        refine q_goto F 6 dX5_has_78 rfl ?_
        exact q_to (ih (j + 1) (by omega)) ⟨rfl, rfl, rfl, rfl, rfl, rfl, congrArg (fun z => some (Value.int z)) (by rw [anyN, hln]; first | (rw [b2_n0 c17]; rfl) | (rw [b2_0.mp c17, decide_eq_false c28]; rfl) | (rw [b2_0.mp c17, decide_eq_false c39, Bool.and_false]; rfl) | (rw [b2_0.mp c17, decide_eq_true c28, decide_eq_true c39, b2_0.mp c43, b2_n0 c52]; rfl) | (rw [b2_0.mp c17, b2_0.mp c65, Bool.and_false]; rfl) | (rw [b2_0.mp c17, decide_eq_true c28, decide_eq_true c39, b2_n0 c43, b2_n0 c65]; rfl) | (rw [b2_0.mp c17, decide_eq_true c28, decide_eq_true c39, b2_0.mp c43, b2_0.mp c52, b2_n0 c65]; rfl)), rfl, trivial⟩
      refine q_aload_n F 0 dX5_has_55 rfl rfl ?_
      refine q_iload F dX5_has_56 rfl ?_
      refine q_iload F dX5_has_58 rfl ?_
      refine q_iload F dX5_has_60 rfl ?_
      refine q_callV_i F (c_X5_isFor hM hi40 h12 hk4) gX5_has_X5_isFor rfl hd_X5_isFor ⟨Nat.le_of_ble_eq_true rfl, Nat.le_of_ble_eq_true rfl⟩ hM.1.1 rfl rfl rfl (Nat.le_of_ble_eq_true rfl) dX5_has_62 ⟨Nat.le_of_ble_eq_true rfl, Nat.le_of_ble_eq_true rfl⟩ ?_
      refine q_if_eq F 72 dX5_has_65 rfl (fun c65 => ?_) (fun c65 => ?_)
      · refine q_iconst F dX5_has_72 hc_0 ?_
        refine q_istore F dX5_has_73 (by decide) rfl ?_
        refine q_iinc F (nI (j + 1)) dX5_has_75 rfl (nI_inc j) (by decide) rfl ?_
        refine q_goto F 6 dX5_has_78 rfl ?_
        exact q_to (ih (j + 1) (by omega)) ⟨rfl, rfl, rfl, rfl, rfl, rfl, congrArg (fun z => some (Value.int z)) (by rw [anyN, hln]; first | (rw [b2_n0 c17]; rfl) | (rw [b2_0.mp c17, decide_eq_false c28]; rfl) | (rw [b2_0.mp c17, decide_eq_false c39, Bool.and_false]; rfl) | (rw [b2_0.mp c17, decide_eq_true c28, decide_eq_true c39, b2_0.mp c43, b2_n0 c52]; rfl) | (rw [b2_0.mp c17, b2_0.mp c65, Bool.and_false]; rfl) | (rw [b2_0.mp c17, decide_eq_true c28, decide_eq_true c39, b2_n0 c43, b2_n0 c65]; rfl) | (rw [b2_0.mp c17, decide_eq_true c28, decide_eq_true c39, b2_0.mp c43, b2_0.mp c52, b2_n0 c65]; rfl)), rfl, trivial⟩
      refine q_iconst F dX5_has_68 hc_1 ?_
      refine q_goto F 73 dX5_has_69 rfl ?_
      refine q_istore F dX5_has_73 (by decide) rfl ?_
      refine q_iinc F (nI (j + 1)) dX5_has_75 rfl (nI_inc j) (by decide) rfl ?_
      refine q_goto F 6 dX5_has_78 rfl ?_
      exact q_to (ih (j + 1) (by omega)) ⟨rfl, rfl, rfl, rfl, rfl, rfl, congrArg (fun z => some (Value.int z)) (by rw [anyN, hln]; first | (rw [b2_n0 c17]; rfl) | (rw [b2_0.mp c17, decide_eq_false c28]; rfl) | (rw [b2_0.mp c17, decide_eq_false c39, Bool.and_false]; rfl) | (rw [b2_0.mp c17, decide_eq_true c28, decide_eq_true c39, b2_0.mp c43, b2_n0 c52]; rfl) | (rw [b2_0.mp c17, b2_0.mp c65, Bool.and_false]; rfl) | (rw [b2_0.mp c17, decide_eq_true c28, decide_eq_true c39, b2_n0 c43, b2_n0 c65]; rfl) | (rw [b2_0.mp c17, decide_eq_true c28, decide_eq_true c39, b2_0.mp c43, b2_0.mp c52, b2_n0 c65]; rfl)), rfl, trivial⟩
  exact q_to (L n 0 (by omega)) ⟨rfl, rfl, rfl, rfl, rfl, rfl, rfl, rfl, trivial⟩

theorem gd_eq {day : Int32} {M : Nat → Nat → Int32} {n ns c : Nat} {name port : Int32} : gd day M n ns c name port = (like (M 21 c) (M 20 c) name && inR day (M 23 c) (M 24 c) && !rv M ns c && anyN (ln day M 2 (M 18 c) false name port) n) := rfl
set_option maxHeartbeats 4000000 in
set_option maxRecDepth 100000 in
theorem c_X5_isGood {l : Launch} {g : hG} {X : va_W} {S : hS} {md : Nat} {ar : Nat → Nat} {sc : Nat → Int32} {M : Nat → Nat → Int32} (hM : mS S md ar sc M) {n : Nat} (hn : sc 4 = nI n) (hn40 : n ≤ 40) (hsz : ∀ i, i < n → ∃ k, k ≤ 4 ∧ M 12 i = nI k) {ns : Nat} (hs : sc 25 = nI ns) (hs20 : ns ≤ 20) {ci : Nat} (hci : ci < 20) {name port : Int32} : hMet l yX5_isGood wsX5_isGood rm_X5_isGood g X S [.ref md, .int (nI ci), .int name, .int port] (pI (b2 (gd (sc 1) M n ns ci name port)) S) := by
  refine h_start (maxL := 5) (ret := (some .boolean)) (by decide) rfl (Nat.le_of_ble_eq_true rfl) ?_
  intro p e s m args below meth c F hr hinit
  refine q_aload_n F 0 dX5_isGood_0 rfl rfl ?_
  refine qg_X5_57 F (hM.1.2.1 20 rfl).1 hM.1.1 dX5_isGood_1 ?_
  refine q_iload_n F 1 dX5_isGood_4 rfl rfl ?_
  refine q_iald F (hM.1.2.1 20 rfl).2.1 (hM.1.2.1 20 rfl).2.2 rfl hci (by decide) dX5_isGood_5 ?_
  refine q_ma 20 (_) rfl hM rfl ?_
  refine q_iload_n F 2 dX5_isGood_6 rfl rfl ?_
  refine q_aload_n F 0 dX5_isGood_7 rfl rfl ?_
  refine qg_X5_60 F (hM.1.2.1 21 rfl).1 hM.1.1 dX5_isGood_8 ?_
  refine q_iload_n F 1 dX5_isGood_11 rfl rfl ?_
  refine q_iald F (hM.1.2.1 21 rfl).2.1 (hM.1.2.1 21 rfl).2.2 rfl hci (by decide) dX5_isGood_12 ?_
  refine q_ma 21 (_) rfl hM rfl ?_
  refine q_callS_i F (c_X5_areLike) gX5_isGood_X5_areLike rfl hd_X5_areLike ⟨Nat.le_of_ble_eq_true rfl, Nat.le_of_ble_eq_true rfl⟩ rfl rfl (Nat.le_of_ble_eq_true rfl) dX5_isGood_13 ⟨Nat.le_of_ble_eq_true rfl, Nat.le_of_ble_eq_true rfl⟩ ?_
  refine q_if_eq F 45 dX5_isGood_16 rfl (fun c16 => ?_) (fun c16 => ?_)
  · refine q_iconst F dX5_isGood_45 hc_0 ?_
    refine q_istore F dX5_isGood_46 (by decide) rfl ?_
    refine q_iload F dX5_isGood_48 rfl ?_
    refine q_if_eq F 82 dX5_isGood_50 rfl (fun c50 => ?_) (fun c50 => ?_)
    · refine q_iconst F dX5_isGood_82 hc_0 ?_
      exact (q_reti F hr rfl dX5_isGood_83 (Nat.le_of_ble_eq_true rfl) (Nat.le_of_ble_eq_true rfl) ⟨by rw [gd_eq]; first | (rw [b2_0.mp c16]; rfl) | (rw [b2_0.mp c38, Bool.and_false]; rfl) | (rw [b2_n0 c58, Bool.not_true, Bool.and_false]; rfl) | (rw [b2_0.mp c75, Bool.and_false]; rfl) | (rw [b2_n0 c16, b2_n0 c38, b2_0.mp c58, b2_n0 c75]; rfl), rfl⟩)
    exact absurd c50 (by decide)
  refine q_aload_n F 0 dX5_isGood_19 rfl rfl ?_
  refine qg_X5_101 F hM.1.1 dX5_isGood_20 ?_
  refine q_mg 1 (_) rfl hM rfl ?_
  refine q_aload_n F 0 dX5_isGood_23 rfl rfl ?_
  refine qg_X5_66 F (hM.1.2.1 23 rfl).1 hM.1.1 dX5_isGood_24 ?_
  refine q_iload_n F 1 dX5_isGood_27 rfl rfl ?_
  refine q_iald F (hM.1.2.1 23 rfl).2.1 (hM.1.2.1 23 rfl).2.2 rfl hci (by decide) dX5_isGood_28 ?_
  refine q_ma 23 (_) rfl hM rfl ?_
  refine q_aload_n F 0 dX5_isGood_29 rfl rfl ?_
  refine qg_X5_69 F (hM.1.2.1 24 rfl).1 hM.1.1 dX5_isGood_30 ?_
  refine q_iload_n F 1 dX5_isGood_33 rfl rfl ?_
  refine q_iald F (hM.1.2.1 24 rfl).2.1 (hM.1.2.1 24 rfl).2.2 rfl hci (by decide) dX5_isGood_34 ?_
  refine q_ma 24 (_) rfl hM rfl ?_
  refine q_callS_i F (c_X5_isIn) gX5_isGood_X5_isIn rfl hd_X5_isIn ⟨Nat.le_of_ble_eq_true rfl, Nat.le_of_ble_eq_true rfl⟩ rfl rfl (Nat.le_of_ble_eq_true rfl) dX5_isGood_35 ⟨Nat.le_of_ble_eq_true rfl, Nat.le_of_ble_eq_true rfl⟩ ?_
  refine q_if_eq F 45 dX5_isGood_38 rfl (fun c38 => ?_) (fun c38 => ?_)
  · refine q_iconst F dX5_isGood_45 hc_0 ?_
    refine q_istore F dX5_isGood_46 (by decide) rfl ?_
    refine q_iload F dX5_isGood_48 rfl ?_
    refine q_if_eq F 82 dX5_isGood_50 rfl (fun c50 => ?_) (fun c50 => ?_)
    · refine q_iconst F dX5_isGood_82 hc_0 ?_
      exact (q_reti F hr rfl dX5_isGood_83 (Nat.le_of_ble_eq_true rfl) (Nat.le_of_ble_eq_true rfl) ⟨by rw [gd_eq]; first | (rw [b2_0.mp c16]; rfl) | (rw [b2_0.mp c38, Bool.and_false]; rfl) | (rw [b2_n0 c58, Bool.not_true, Bool.and_false]; rfl) | (rw [b2_0.mp c75, Bool.and_false]; rfl) | (rw [b2_n0 c16, b2_n0 c38, b2_0.mp c58, b2_n0 c75]; rfl), rfl⟩)
    exact absurd c50 (by decide)
  refine q_iconst F dX5_isGood_41 hc_1 ?_
  refine q_goto F 46 dX5_isGood_42 rfl ?_
  refine q_istore F dX5_isGood_46 (by decide) rfl ?_
  refine q_iload F dX5_isGood_48 rfl ?_
  refine q_if_eq F 82 dX5_isGood_50 rfl (fun c50 => ?_) (fun c50 => ?_)
  · exact absurd c50 (by decide)
  refine q_aload_n F 0 dX5_isGood_53 rfl rfl ?_
  refine q_iload_n F 1 dX5_isGood_54 rfl rfl ?_
  refine q_callV_i F (c_X5_isRevoked hM hs hs20 hci) gX5_isGood_X5_isRevoked rfl hd_X5_isRevoked ⟨Nat.le_of_ble_eq_true rfl, Nat.le_of_ble_eq_true rfl⟩ hM.1.1 rfl rfl rfl (Nat.le_of_ble_eq_true rfl) dX5_isGood_55 ⟨Nat.le_of_ble_eq_true rfl, Nat.le_of_ble_eq_true rfl⟩ ?_
  refine q_if_ne F 82 dX5_isGood_58 rfl (fun c58 => ?_) (fun c58 => ?_)
  · refine q_iconst F dX5_isGood_82 hc_0 ?_
    exact (q_reti F hr rfl dX5_isGood_83 (Nat.le_of_ble_eq_true rfl) (Nat.le_of_ble_eq_true rfl) ⟨by rw [gd_eq]; first | (rw [b2_0.mp c16]; rfl) | (rw [b2_0.mp c38, Bool.and_false]; rfl) | (rw [b2_n0 c58, Bool.not_true, Bool.and_false]; rfl) | (rw [b2_0.mp c75, Bool.and_false]; rfl) | (rw [b2_n0 c16, b2_n0 c38, b2_0.mp c58, b2_n0 c75]; rfl), rfl⟩)
  refine q_aload_n F 0 dX5_isGood_61 rfl rfl ?_
  refine q_iconst F dX5_isGood_62 hc_2 ?_
  refine q_aload_n F 0 dX5_isGood_63 rfl rfl ?_
  refine qg_X5_51 F (hM.1.2.1 18 rfl).1 hM.1.1 dX5_isGood_64 ?_
  refine q_iload_n F 1 dX5_isGood_67 rfl rfl ?_
  refine q_iald F (hM.1.2.1 18 rfl).2.1 (hM.1.2.1 18 rfl).2.2 rfl hci (by decide) dX5_isGood_68 ?_
  refine q_ma 18 (_) rfl hM rfl ?_
  refine q_iconst F dX5_isGood_69 hc_0 ?_
  refine q_iload_n F 2 dX5_isGood_70 rfl rfl ?_
  refine q_iload_n F 3 dX5_isGood_71 rfl rfl ?_
  refine q_callV_i F (c_X5_has (isAny := false) hM hn hn40 hsz) gX5_isGood_X5_has rfl hd_X5_has ⟨Nat.le_of_ble_eq_true rfl, Nat.le_of_ble_eq_true rfl⟩ hM.1.1 rfl rfl rfl (Nat.le_of_ble_eq_true rfl) dX5_isGood_72 ⟨Nat.le_of_ble_eq_true rfl, Nat.le_of_ble_eq_true rfl⟩ ?_
  refine q_if_eq F 82 dX5_isGood_75 rfl (fun c75 => ?_) (fun c75 => ?_)
  · refine q_iconst F dX5_isGood_82 hc_0 ?_
    exact (q_reti F hr rfl dX5_isGood_83 (Nat.le_of_ble_eq_true rfl) (Nat.le_of_ble_eq_true rfl) ⟨by rw [gd_eq]; first | (rw [b2_0.mp c16]; rfl) | (rw [b2_0.mp c38, Bool.and_false]; rfl) | (rw [b2_n0 c58, Bool.not_true, Bool.and_false]; rfl) | (rw [b2_0.mp c75, Bool.and_false]; rfl) | (rw [b2_n0 c16, b2_n0 c38, b2_0.mp c58, b2_n0 c75]; rfl), rfl⟩)
  refine q_iconst F dX5_isGood_78 hc_1 ?_
  refine q_goto F 83 dX5_isGood_79 rfl ?_
  exact (q_reti F hr rfl dX5_isGood_83 (Nat.le_of_ble_eq_true rfl) (Nat.le_of_ble_eq_true rfl) ⟨by rw [gd_eq]; first | (rw [b2_0.mp c16]; rfl) | (rw [b2_0.mp c38, Bool.and_false]; rfl) | (rw [b2_n0 c58, Bool.not_true, Bool.and_false]; rfl) | (rw [b2_0.mp c75, Bool.and_false]; rfl) | (rw [b2_n0 c16, b2_n0 c38, b2_0.mp c58, b2_n0 c75]; rfl), rfl⟩)

