/-! THE LAW'S LOOP: one call a turn; and its start -/
theorem lw_and31 (x : Int32) : ∃ k : Nat, k < 32 ∧ x &&& 31 = nI k := by
  refine ⟨(x.toBitVec &&& 31#32).toNat, ?_, ?_⟩
  · rw [BitVec.toNat_and]
    exact Nat.lt_of_le_of_lt Nat.and_le_right (by decide)
  · apply Int32.toBitVec_inj.mp
    rw [Int32.toBitVec_and]
    show x.toBitVec &&& 31#32 = BitVec.ofNat 32 (x.toBitVec &&& 31#32).toNat
    rw [BitVec.ofNat_toNat, BitVec.setWidth_eq]
theorem lw_gt {L a : Nat} (h1 : a ≤ L) (h2 : L < a + 8) (hL : L < 2 ^ 31) : nI L - 8 < nI a := by
  by_cases h8 : 8 ≤ L
  · have e : nI L - 8 = nI (L - 8) := by
      rw [show (8 : Int32) = nI 8 from rfl]
      exact nI_sub h8
    rw [e]
    exact nI_lt (by omega) (by omega)
  · have e : nI L - 8 < 0 := by
      rcases (show L = 0 ∨ L = 1 ∨ L = 2 ∨ L = 3 ∨ L = 4 ∨ L = 5 ∨ L = 6 ∨ L = 7 by omega) with rfl | rfl | rfl | rfl | rfl | rfl | rfl | rfl <;> decide +kernel
    exact Int32.lt_of_lt_of_le e (nI_pos' (by omega))
theorem lw_ngt {L a : Nat} (h : a + 8 ≤ L) (hL : L < 2 ^ 31) : ¬ nI L - 8 < nI a := by
  have e : nI L - 8 = nI (L - 8) := by
    rw [show (8 : Int32) = nI 8 from rfl]
    exact nI_sub (by omega)
  rw [e]
  exact nI_nlt (by omega) (by omega)
theorem lw_inc8 (t : Nat) : nI (8 * t) + Int32.ofInt 8 = nI (8 * (t + 1)) := by
  have e : Int32.ofInt 8 = nI 8 := by decide +kernel
  rw [e]
  exact nI_add (8 * t) 8

set_option maxHeartbeats 4000000 in
set_option maxRecDepth 100000 in
theorem k_call {p : Program} {l : Launch} {e : Env} {s : State} {m : MethodId} {args : Array Value} {below : List Frame} {meth : Method} {c : Code} {g : hG} {X0 : va_W} {o : Nat} {f : Nat → Int64} {Q : State → Prop} {S : hS} {cells slots b L h md t : Nat} {xs : Nat → Int32} (F : hF p l s m args meth c cL_law 8 wsL_law RL g) (hst : l.stackTraces = false) (hX : va_X b L xs s s.heap) (hb : b < s.heap.size) (hbA : b < g.2.2) (hL : L < 2 ^ 31) (ht : 8 * t + 8 ≤ L) (hc : cells + 9 ≤ room_1.cells) (hs : slots + 55 ≤ room_1.slots) (hJ : jS S h md) (kk : ∀ (f' : Nat → Int64) (S' : hS), jS S' h md → V p l e room_1 s m args below meth c 8 g (oX g X0 o f') Q S' (cells + 9) (slots + 55) [(0, .ref b), (1, .ref h), (2, .ref md), (3, .ref o), (4, .int (nI (8 * t)))] 1733 []) : V p l e room_1 s m args below meth c 8 g (oX g X0 o f) Q S cells slots [(0, .ref b), (1, .ref h), (2, .ref md), (3, .ref o), (4, .int (nI (8 * t)))] 33 [] := by
  refine q_aload_n F 0 dL_law_33 rfl rfl ?_
  refine q_iload F dL_law_34 rfl ?_
  refine q_sld F hX hb hbA (j := 8 * t) rfl (by omega) hL dL_law_36 ?_
  refine q_bipush (v := 31) F dL_law_37 (by decide) ?_
  refine q_iand F dL_law_39 ?_
  obtain ⟨k, hk, hx⟩ := lw_and31 (xs (8 * t))
  rw [hx]
  by_cases hk2 : k < 23
  · rcases (show k = 0 ∨ k = 1 ∨ k = 2 ∨ k = 3 ∨ k = 4 ∨ k = 5 ∨ k = 6 ∨ k = 7 ∨ k = 8 ∨ k = 9 ∨ k = 10 ∨ k = 11 ∨ k = 12 ∨ k = 13 ∨ k = 14 ∨ k = 15 ∨ k = 16 ∨ k = 17 ∨ k = 18 ∨ k = 19 ∨ k = 20 ∨ k = 21 ∨ k = 22 by omega) with rfl | rfl | rfl | rfl | rfl | rfl | rfl | rfl | rfl | rfl | rfl | rfl | rfl | rfl | rfl | rfl | rfl | rfl | rfl | rfl | rfl | rfl | rfl
    · exact q_tswI F (off := 108) 148 dL_law_40 (by decide +kernel) (by decide +kernel) (by decide +kernel) rfl (k_addLine F hst hX hb hbA hL ht hc hs hJ kk)
    · exact q_tswI F (off := 176) 216 dL_law_40 (by decide +kernel) (by decide +kernel) (by decide +kernel) rfl (k_addPattern F hst hX hb hbA hL ht hc hs hJ kk)
    · exact q_tswI F (off := 296) 336 dL_law_40 (by decide +kernel) (by decide +kernel) (by decide +kernel) rfl (k_addHashed F hst hX hb hbA hL ht hc hs hJ kk)
    · exact q_tswI F (off := 400) 440 dL_law_40 (by decide +kernel) (by decide +kernel) (by decide +kernel) rfl (k_remove F hst hX hb hbA hL ht hc hs hJ kk)
    · exact q_tswI F (off := 456) 496 dL_law_40 (by decide +kernel) (by decide +kernel) (by decide +kernel) rfl (k_certify F hst hX hb hbA hL ht hc hs hJ kk)
    · exact q_tswI F (off := 588) 628 dL_law_40 (by decide +kernel) (by decide +kernel) (by decide +kernel) rfl (k_revokeSpan F hst hX hb hbA hL ht hc hs hJ kk)
    · exact q_tswI F (off := 668) 708 dL_law_40 (by decide +kernel) (by decide +kernel) (by decide +kernel) rfl (k_setFirstSight F hst hX hb hbA hL ht hc hs hJ kk)
    · refine q_tswI F (off := 752) 792 dL_law_40 (by decide +kernel) (by decide +kernel) (by decide +kernel) rfl ?_
      by_cases hct : xs (8 * t + 4) = -1
      · exact k_answer_n F hst hX hb hbA hL ht hc hs hJ hct kk
      · exact k_answer_c F hst hX hb hbA hL ht hc hs hJ hct kk
    · exact q_tswI F (off := 844) 884 dL_law_40 (by decide +kernel) (by decide +kernel) (by decide +kernel) rfl (k_confirm F hst hX hb hbA hL ht hc hs hJ kk)
    · exact q_tswI F (off := 888) 928 dL_law_40 (by decide +kernel) (by decide +kernel) (by decide +kernel) rfl (k_turn F hst hX hb hbA hL ht hc hs hJ kk)
    · exact q_tswI F (off := 992) 1032 dL_law_40 (by decide +kernel) (by decide +kernel) (by decide +kernel) rfl (k_pass F hst hX hb hbA hL ht hc hs hJ kk)
    · exact q_tswI F (off := 1048) 1088 dL_law_40 (by decide +kernel) (by decide +kernel) (by decide +kernel) rfl (k_clean F hst hX hb hbA hL ht hc hs hJ kk)
    · refine q_tswI F (off := 1104) 1144 dL_law_40 (by decide +kernel) (by decide +kernel) (by decide +kernel) rfl ?_
      by_cases hct : xs (8 * t + 4) = -1
      · exact k_judge_n F hst hX hb hbA hL ht hc hs hJ hct kk
      · exact k_judge_c F hst hX hb hbA hL ht hc hs hJ hct kk
    · exact q_tswI F (off := 1196) 1236 dL_law_40 (by decide +kernel) (by decide +kernel) (by decide +kernel) rfl (k_judgeByReading F hst hX hb hbA hL ht hc hs hJ kk)
    · exact q_tswI F (off := 1276) 1316 dL_law_40 (by decide +kernel) (by decide +kernel) (by decide +kernel) rfl (k_day F hst hX hb hbA hL ht hc hs hJ kk)
    · exact q_tswI F (off := 1289) 1329 dL_law_40 (by decide +kernel) (by decide +kernel) (by decide +kernel) rfl (k_lines F hst hX hb hbA hL ht hc hs hJ kk)
    · exact q_tswI F (off := 1302) 1342 dL_law_40 (by decide +kernel) (by decide +kernel) (by decide +kernel) rfl (k_keyOf F hst hX hb hbA hL ht hc hs hJ kk)
    · exact q_tswI F (off := 1358) 1398 dL_law_40 (by decide +kernel) (by decide +kernel) (by decide +kernel) rfl (k_seen F hst hX hb hbA hL ht hc hs hJ kk)
    · exact q_tswI F (off := 1414) 1454 dL_law_40 (by decide +kernel) (by decide +kernel) (by decide +kernel) rfl (k_end F hst hX hb hbA hL ht hc hs hJ kk)
    · exact q_tswI F (off := 1470) 1510 dL_law_40 (by decide +kernel) (by decide +kernel) (by decide +kernel) rfl (k_matches F hst hX hb hbA hL ht hc hs hJ kk)
    · exact q_tswI F (off := 1557) 1597 dL_law_40 (by decide +kernel) (by decide +kernel) (by decide +kernel) rfl (k_find F hst hX hb hbA hL ht hc hs hJ kk)
    · exact q_tswI F (off := 1625) 1665 dL_law_40 (by decide +kernel) (by decide +kernel) (by decide +kernel) rfl (k_linesOf F hst hX hb hbA hL ht hc hs hJ kk)
    · exact q_tswI F (off := 1680) 1720 dL_law_40 (by decide +kernel) (by decide +kernel) (by decide +kernel) rfl (k_waiting F hst hX hb hbA hL ht hc hs hJ kk)
  · refine q_tswO F 1733 dL_law_40 (Or.inr (by rw [nI_toInt (by omega)]; omega)) rfl ?_
    exact q_widen (Nat.le_add_right _ _) (Nat.le_add_right _ _) (kk f S hJ)

set_option maxHeartbeats 4000000 in
set_option maxRecDepth 100000 in
theorem k_loop {p : Program} {l : Launch} {e : Env} {s : State} {m : MethodId} {args : Array Value} {below : List Frame} {meth : Method} {c : Code} {g : hG} {X0 : va_W} {o : Nat} {Q : State → Prop} {b L h md : Nat} {xs : Nat → Int32} (F : hF p l s m args meth c cL_law 8 wsL_law RL g) (hst : l.stackTraces = false) (hX : va_X b L xs s s.heap) (hb : b < s.heap.size) (hbA : b < g.2.2) (hL : L < 2 ^ 31) (kend : ∀ (f' : Nat → Int64) (S' : hS) (lv' : List (Nat × Value)) (cells' slots' : Nat), cells' ≤ room_1.cells → slots' ≤ room_1.slots → V p l e room_1 s m args below meth c 8 g (oX g X0 o f') Q S' cells' slots' lv' 1740 [.int 1]) : ∀ (r t : Nat) (f : Nat → Int64) (S : hS) (cells slots : Nat), 8 * (t + r) ≤ L → L < 8 * (t + r) + 8 → cells + 9 * r ≤ room_1.cells → slots + 55 * r ≤ room_1.slots → jS S h md → V p l e room_1 s m args below meth c 8 g (oX g X0 o f) Q S cells slots [(0, .ref b), (1, .ref h), (2, .ref md), (3, .ref o), (4, .int (nI (8 * t)))] 23 [] := by
  intro r
  induction r with
  | zero =>
    intro t f S cells slots h1 h2 hc hs hJ
    refine q_iload F dL_law_23 rfl ?_
    refine q_aload_n F 0 dL_law_25 rfl rfl ?_
    refine q_slen F hX hb hbA dL_law_26 ?_
    refine q_bipush (v := 8) F dL_law_27 (by decide) ?_
    refine q_isub F dL_law_29 ?_
    refine q_icmp_gt F 1739 dL_law_30 rfl (fun c1 => ?_) (fun c1 => absurd (lw_gt (by omega) (by omega) hL) c1)
    refine q_iconst F dL_law_1739 hc_1 ?_
    exact kend _ _ _ _ _ hc hs
  | succ r ih =>
    intro t f S cells slots h1 h2 hc hs hJ
    refine q_iload F dL_law_23 rfl ?_
    refine q_aload_n F 0 dL_law_25 rfl rfl ?_
    refine q_slen F hX hb hbA dL_law_26 ?_
    refine q_bipush (v := 8) F dL_law_27 (by decide) ?_
    refine q_isub F dL_law_29 ?_
    refine q_icmp_gt F 1739 dL_law_30 rfl (fun c1 => absurd c1 (lw_ngt (by omega) hL)) (fun c1 => ?_)
    refine k_call F hst hX hb hbA hL (by omega) (Nat.le_trans (by omega) hc) (Nat.le_trans (by omega) hs) hJ (fun f' S' hJ' => ?_)
    refine q_iinc F (nI (8 * (t + 1))) dL_law_1733 rfl (lw_inc8 t) (by decide) rfl ?_
    refine q_goto F 23 dL_law_1736 rfl ?_
    exact q_to (ih (t + 1) f' S' (cells + 9) (slots + 55) (by omega) (by omega) (Nat.le_trans (by omega) hc) (Nat.le_trans (by omega) hs) hJ') ⟨rfl, rfl, rfl, rfl, rfl, trivial⟩

def lw_S0 : hS := ([], fun _ => 0, fun _ _ => 0, fun _ _ => none, fun _ => 0, fun _ _ => 0, fun _ _ => none)
theorem mdN_nO {S : hS} {k q : Nat} (hq : q ∉ sL S) : mdN S (nO S k q) :=
  ⟨fun a k' ha => isO_nO' ha hq, fun x a _ ha => ⟨by rw [sF_nO, if_neg (fun z : a = q => hq (by rw [← z]; exact ha))], by rw [sR_nO, if_neg (fun z : a = q => hq (by rw [← z]; exact ha))]⟩, fun a ha => ⟨rfl, rfl⟩⟩
section HLawS
variable {p : Program} {l : Launch} {e : Env} {R : Room} {s : State} {m : MethodId} {args : Array Value} {below : List Frame} {meth : Method} {c : Code} {nL : Nat} {g : hG} {Q : State → Prop} {S : hS} {cells slots : Nat} {lv : List (Nat × Value)} {pc : Nat} {st : List Value} {cc : ByteArray} {Ts : List Cond} {own : String}
/-- the law's cell for answers is made -/
theorem q_newout (F : hF p l s m args meth c cc nL Ts own g) (hf : cells + 1 ≤ R.cells ∧ slots + 1 ≤ R.slots) (d : decode cc pc = .ok (.newarray .long, 2))
    (kk : ∀ o : Nat, V p l e R s m args below meth c nL g (oX g [] o (fun _ => 0)) Q S (cells + 1) (slots + 1) lv (pc + 2) (.ref o :: st)) : V p l e R s m args below meth c nL g [] Q S cells slots lv pc (.int 1 :: st) := by
  intro H locs ls hw0 hS0 hl
  refine va_newa (atype := .long) (ty := .long) (N' := 1) (a0 := (1, .inr (.inl (fun _ => 0)))) F.1.1 F.1.2.1 (hk_word F.2.1 (List.mem_of_getElem? (i := 6) (by decide +kernel)) args) rfl F.2.1.1 hw0.1 hw0.2 hS0 (hA_new F.2.2.2) (fun cA => by rw [vp_cell_l]; rfl) (by decide) (by decide) (by decide) hf.1 hf.2 d (fun q cA H1 hK1 hP1 hD1 hS1 => ?_)
  have hcA : cA = g.2.1 6 := h_cy F.2.1.1 rfl hK1
  subst hcA
  have hP2 := va_P.swap (a := []) (b := va_pl (sL S) (hE g.2.1 S)) (c := [(q, .inl (g.2.1 6, 1, .inr (.inl (fun _ => 0))))]) hP1
  have hD2 := va_D.swap (a := []) (b := va_pl (sL S) (hE g.2.1 S)) (c := [(q, .inl (g.2.1 6, 1, .inr (.inl (fun _ => 0))))]) hD1
  exact kk q H1 locs ls ⟨hP2, hD2⟩ hS1 hl
end HLawS

set_option maxHeartbeats 4000000 in
set_option maxRecDepth 100000 in
theorem k_start {p : Program} {l : Launch} {e : Env} {s : State} {m : MethodId} {args : Array Value} {below : List Frame} {meth : Method} {c : Code} {g : hG} {Q : State → Prop} {b L : Nat} {xs : Nat → Int32} (F : hF p l s m args meth c cL_law 8 wsL_law RL g) (hst : l.stackTraces = false) (hX : va_X b L xs s s.heap) (hb : b < s.heap.size) (hbA : b < g.2.2) (hL : L ≤ 4096) (kend : ∀ (o : Nat) (f' : Nat → Int64) (S' : hS) (lv' : List (Nat × Value)) (cells' slots' : Nat), cells' ≤ room_1.cells → slots' ≤ room_1.slots → V p l e room_1 s m args below meth c 8 g (oX g [] o f') Q S' cells' slots' lv' 1740 [.int 1]) : V p l e room_1 s m args below meth c 8 g [] Q lw_S0 0 0 [(0, .ref b)] 0 [] := by
  refine qn_L_8 F ⟨Nat.le_of_ble_eq_true rfl, Nat.le_of_ble_eq_true rfl⟩ dL_law_0 (fun h hq => ?_)
  refine q_dup F dL_law_3 rfl ?_
  refine q_callI_gv F (c_X4_init (isO_nO _ 4 h) (fun x => by rw [sF_nO, if_pos rfl])) gL_law_X4_init rfl hd_X4_init ⟨Nat.le_of_ble_eq_true rfl, Nat.le_of_ble_eq_true rfl⟩ (List.mem_of_getElem? (i := 2) (by decide +kernel)) (List.mem_of_getElem? (i := 7) (by decide +kernel)) (List.mem_of_getElem? (i := 8) (by decide +kernel)) rfl rfl rfl (Nat.le_of_ble_eq_true rfl) dL_law_4 ⟨Nat.le_of_ble_eq_true rfl, Nat.le_of_ble_eq_true rfl⟩ (fun S1 hp1 => ?_)
  refine q_astore_n F 1 dL_law_7 rfl (by decide) rfl ?_
  refine qn_L_87 F ⟨Nat.le_of_ble_eq_true rfl, Nat.le_of_ble_eq_true rfl⟩ dL_law_8 (fun md hq2 => ?_)
  refine q_dup F dL_law_11 rfl ?_
  refine q_callI_gv F (c_X5_init (isO_nO _ 5 md) (fun x => by rw [sF_nO, if_pos rfl])) gL_law_X5_init rfl hd_X5_init ⟨Nat.le_of_ble_eq_true rfl, Nat.le_of_ble_eq_true rfl⟩ (List.mem_of_getElem? (i := 5) (by decide +kernel)) (List.mem_of_getElem? (i := 28) (by decide +kernel)) (List.mem_of_getElem? (i := 29) (by decide +kernel)) rfl rfl rfl (Nat.le_of_ble_eq_true rfl) dL_law_12 ⟨Nat.le_of_ble_eq_true rfl, Nat.le_of_ble_eq_true rfl⟩ (fun S2 hp2 => ?_)
  obtain ⟨ar, hM, hm⟩ := hp2
  have hJ : jS S2 h md := j_new hp1 hM ((mdN_nO hq2).trans hm)
  refine q_astore_n F 2 dL_law_15 rfl (by decide) rfl ?_
  refine q_iconst F dL_law_16 hc_1 ?_
  refine q_newout F ⟨Nat.le_of_ble_eq_true rfl, Nat.le_of_ble_eq_true rfl⟩ dL_law_17 (fun o => ?_)
  refine q_astore_n F 3 dL_law_19 rfl (by decide) rfl ?_
  refine q_iconst (v := nI (8 * 0)) F dL_law_20 (by decide +kernel) ?_
  refine q_istore F dL_law_21 (by decide) rfl ?_
  refine q_widen (k := 108) (n := 1845) (Nat.le_of_ble_eq_true rfl) (Nat.le_of_ble_eq_true rfl) ?_
  refine q_to (k_loop F hst hX hb hbA (by omega) (kend o) (L / 8) 0 _ S2 108 1845 (by omega) (by omega) (Nat.le_trans (show 108 + 9 * (L / 8) ≤ 5000 by omega) (Nat.le_of_ble_eq_true rfl)) (Nat.le_trans (show 1845 + 55 * (L / 8) ≤ 31000 by omega) (Nat.le_of_ble_eq_true rfl)) hJ) ⟨rfl, rfl, rfl, rfl, rfl, trivial⟩
