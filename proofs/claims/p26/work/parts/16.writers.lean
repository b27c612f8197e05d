set_option maxHeartbeats 4000000 in
set_option maxRecDepth 100000 in
theorem c_X1_begin {l : Launch} {g : hG} {X : va_W} {S : hS} {a : Nat} {mk key day : Int32} (hO1 : isO S a 1) : hMet l yX1_begin wsX1_begin rm_X1_begin g X S [.ref a, .int mk, .int key, .int day] (pV (beginS S a mk key day)) := by
  refine h_start (maxL := 4) (ret := none) (by decide) rfl (Nat.le_of_ble_eq_true rfl) ?_
  intro p e s m args below meth c F hr hinit
  refine q_aload_n F 0 dX1_begin_0 rfl rfl ?_
  refine q_iload_n F 1 dX1_begin_1 rfl rfl ?_
  refine qp_X1_17 F hO1 dX1_begin_2 ?_
  refine q_aload_n F 0 dX1_begin_5 rfl rfl ?_
  refine q_iload_n F 2 dX1_begin_6 rfl rfl ?_
  refine qp_X1_21 F (o_uF hO1) dX1_begin_7 ?_
  refine q_aload_n F 0 dX1_begin_10 rfl rfl ?_
  refine q_iload_n F 3 dX1_begin_11 rfl rfl ?_
  refine qp_X1_24 F (o_uF (o_uF hO1)) dX1_begin_12 ?_
  refine q_aload_n F 0 dX1_begin_15 rfl rfl ?_
  refine q_iconst F dX1_begin_16 hc_m1 ?_
  refine qp_X1_27 F (o_uF (o_uF (o_uF hO1))) dX1_begin_17 ?_
  refine q_aload_n F 0 dX1_begin_20 rfl rfl ?_
  refine q_iconst F dX1_begin_21 hc_0 ?_
  refine qp_X1_30 F (o_uF (o_uF (o_uF (o_uF hO1)))) dX1_begin_22 ?_
  refine q_aload_n F 0 dX1_begin_25 rfl rfl ?_
  refine q_iconst F dX1_begin_26 hc_0 ?_
  refine qp_X1_33 F (by first | exact Or.inl rfl | exact Or.inr rfl | assumption) (o_uF (o_uF (o_uF (o_uF (o_uF hO1))))) dX1_begin_27 ?_
  exact (q_retv F hr dX1_begin_30 (Nat.le_of_ble_eq_true rfl) (Nat.le_of_ble_eq_true rfl) ⟨rfl, rfl⟩)

set_option maxHeartbeats 4000000 in
set_option maxRecDepth 100000 in
theorem c_X1_takeHash {l : Launch} {g : hG} {X : va_W} {S : hS} {a : Nat} {name port salt : Int32} (hO1 : isO S a 1) : hMet l yX1_takeHash wsX1_takeHash rm_X1_takeHash g X S [.ref a, .int name, .int port, .int salt] (pV (hashS S a name port salt)) := by
  refine h_start (maxL := 4) (ret := none) (by decide) rfl (Nat.le_of_ble_eq_true rfl) ?_
  intro p e s m args below meth c F hr hinit
  refine q_aload_n F 0 dX1_takeHash_0 rfl rfl ?_
  refine q_iconst F dX1_takeHash_1 hc_1 ?_
  refine qp_X1_33 F (by first | exact Or.inl rfl | exact Or.inr rfl | assumption) hO1 dX1_takeHash_2 ?_
  refine q_aload_n F 0 dX1_takeHash_5 rfl rfl ?_
  refine q_iload_n F 1 dX1_takeHash_6 rfl rfl ?_
  refine q_iload_n F 3 dX1_takeHash_7 rfl rfl ?_
  refine q_callS_i F (c_X1_hashOf) gX1_takeHash_X1_hashOf rfl hd_X1_hashOf ⟨Nat.le_of_ble_eq_true rfl, Nat.le_of_ble_eq_true rfl⟩ rfl rfl (Nat.le_of_ble_eq_true rfl) dX1_takeHash_8 ⟨Nat.le_of_ble_eq_true rfl, Nat.le_of_ble_eq_true rfl⟩ ?_
  refine qp_X1_51 F (o_uF hO1) dX1_takeHash_11 ?_
  refine q_aload_n F 0 dX1_takeHash_14 rfl rfl ?_
  refine q_iload_n F 3 dX1_takeHash_15 rfl rfl ?_
  refine qp_X1_54 F (o_uF (o_uF hO1)) dX1_takeHash_16 ?_
  refine q_aload_n F 0 dX1_takeHash_19 rfl rfl ?_
  refine q_iload_n F 2 dX1_takeHash_20 rfl rfl ?_
  refine qp_X1_57 F (o_uF (o_uF (o_uF hO1))) dX1_takeHash_21 ?_
  exact (q_retv F hr dX1_takeHash_24 (Nat.le_of_ble_eq_true rfl) (Nat.le_of_ble_eq_true rfl) ⟨rfl, rfl⟩)

def endS (S : hS) (a : Nat) (d : Int32) : hS := if sF S 13 a = -1 ∨ d < sF S 13 a then uF S 13 a d else S
set_option maxHeartbeats 4000000 in
set_option maxRecDepth 100000 in
theorem c_X1_endBy {l : Launch} {g : hG} {X : va_W} {S : hS} {a : Nat} {d : Int32} (hO1 : isO S a 1) : hMet l yX1_endBy wsX1_endBy rm_X1_endBy g X S [.ref a, .int d] (pV (endS S a d)) := by
  refine h_start (maxL := 2) (ret := none) (by decide) rfl (Nat.le_of_ble_eq_true rfl) ?_
  intro p e s m args below meth c F hr hinit
  refine q_aload_n F 0 dX1_endBy_0 rfl rfl ?_
  refine qg_X1_27 F hO1 dX1_endBy_1 ?_
  refine q_iconst F dX1_endBy_4 hc_m1 ?_
  refine q_icmp_eq F 16 dX1_endBy_5 rfl (fun c5 => ?_) (fun c5 => ?_)
  · refine q_aload_n F 0 dX1_endBy_16 rfl rfl ?_
    refine q_iload_n F 1 dX1_endBy_17 rfl rfl ?_
    refine qp_X1_27 F hO1 dX1_endBy_18 ?_
    exact (q_retv F hr dX1_endBy_21 (Nat.le_of_ble_eq_true rfl) (Nat.le_of_ble_eq_true rfl) ⟨rfl, by unfold endS; first | rw [if_pos (Or.inl c5)] | rw [if_pos (Or.inr (Int32.not_le.mp c13))] | rw [if_neg (fun z => z.elim c5 (fun z => Int32.not_le.mpr z c13))]⟩)
  refine q_aload_n F 0 dX1_endBy_8 rfl rfl ?_
  refine qg_X1_27 F hO1 dX1_endBy_9 ?_
  refine q_iload_n F 1 dX1_endBy_12 rfl rfl ?_
  refine q_icmp_le F 21 dX1_endBy_13 rfl (fun c13 => ?_) (fun c13 => ?_)
  · exact (q_retv F hr dX1_endBy_21 (Nat.le_of_ble_eq_true rfl) (Nat.le_of_ble_eq_true rfl) ⟨rfl, by unfold endS; first | rw [if_pos (Or.inl c5)] | rw [if_pos (Or.inr (Int32.not_le.mp c13))] | rw [if_neg (fun z => z.elim c5 (fun z => Int32.not_le.mpr z c13))]⟩)
  refine q_aload_n F 0 dX1_endBy_16 rfl rfl ?_
  refine q_iload_n F 1 dX1_endBy_17 rfl rfl ?_
  refine qp_X1_27 F hO1 dX1_endBy_18 ?_
  exact (q_retv F hr dX1_endBy_21 (Nat.le_of_ble_eq_true rfl) (Nat.le_of_ble_eq_true rfl) ⟨rfl, by unfold endS; first | rw [if_pos (Or.inl c5)] | rw [if_pos (Or.inr (Int32.not_le.mp c13))] | rw [if_neg (fun z => z.elim c5 (fun z => Int32.not_le.mpr z c13))]⟩)

set_option maxHeartbeats 4000000 in
set_option maxRecDepth 100000 in
theorem c_X2_init {l : Launch} {g : hG} {X : va_W} {S : hS} {a : Nat} {name places port den : Int32} (hO2 : isO S a 2) (hB : isB den) : hMet l yX2_init wsX2_init rm_X2_init g X S [.ref a, .int name, .int places, .int port, .int den] (pV (patI S a name places port den)) := by
  refine h_start (maxL := 5) (ret := none) (by decide) rfl (Nat.le_of_ble_eq_true rfl) ?_
  intro p e s m args below meth c F hr hinit
  refine q_aload_n F 0 dX2_init_0 rfl rfl ?_
  refine q_objInit F (List.mem_of_getElem? (i := 149) (by decide +kernel)) dX2_init_1 ⟨Nat.le_of_ble_eq_true rfl, Nat.le_of_ble_eq_true rfl⟩ ?_
  refine q_aload_n F 0 dX2_init_4 rfl rfl ?_
  refine q_iload_n F 1 dX2_init_5 rfl rfl ?_
  refine qp_X2_7 F hinit hO2 dX2_init_6 ?_
  refine q_aload_n F 0 dX2_init_9 rfl rfl ?_
  refine q_iload_n F 2 dX2_init_10 rfl rfl ?_
  refine qp_X2_13 F hinit (o_uF hO2) dX2_init_11 ?_
  refine q_aload_n F 0 dX2_init_14 rfl rfl ?_
  refine q_iload_n F 3 dX2_init_15 rfl rfl ?_
  refine qp_X2_16 F hinit (o_uF (o_uF hO2)) dX2_init_16 ?_
  refine q_aload_n F 0 dX2_init_19 rfl rfl ?_
  refine q_iload F dX2_init_20 rfl ?_
  refine qp_X2_19 F hinit hB (o_uF (o_uF (o_uF hO2))) dX2_init_22 ?_
  exact (q_retv F hr dX2_init_25 (Nat.le_of_ble_eq_true rfl) (Nat.le_of_ble_eq_true rfl) ⟨rfl, rfl⟩)

set_option maxHeartbeats 4000000 in
set_option maxRecDepth 100000 in
theorem c_X0_init {l : Launch} {g : hG} {X : va_W} {S : hS} {a : Nat} {x0 x1 x2 x3 x4 x5 x6 : Int32} (hO0 : isO S a 0) : hMet l yX0_init wsX0_init rm_X0_init g X S [.ref a, .int x0, .int x1, .int x2, .int x3, .int x4, .int x5, .int x6] (pV (certI S a x0 x1 x2 x3 x4 x5 x6)) := by
  refine h_start (maxL := 8) (ret := none) (by decide) rfl (Nat.le_of_ble_eq_true rfl) ?_
  intro p e s m args below meth c F hr hinit
  refine q_aload_n F 0 dX0_init_0 rfl rfl ?_
  refine q_objInit F (List.mem_of_getElem? (i := 206) (by decide +kernel)) dX0_init_1 ⟨Nat.le_of_ble_eq_true rfl, Nat.le_of_ble_eq_true rfl⟩ ?_
  refine q_aload_n F 0 dX0_init_4 rfl rfl ?_
  refine q_iload_n F 1 dX0_init_5 rfl rfl ?_
  refine qp_X0_7 F hinit hO0 dX0_init_6 ?_
  refine q_aload_n F 0 dX0_init_9 rfl rfl ?_
  refine q_iload_n F 2 dX0_init_10 rfl rfl ?_
  refine qp_X0_13 F hinit (o_uF hO0) dX0_init_11 ?_
  refine q_aload_n F 0 dX0_init_14 rfl rfl ?_
  refine q_iload_n F 3 dX0_init_15 rfl rfl ?_
  refine qp_X0_16 F hinit (o_uF (o_uF hO0)) dX0_init_16 ?_
  refine q_aload_n F 0 dX0_init_19 rfl rfl ?_
  refine q_iload F dX0_init_20 rfl ?_
  refine qp_X0_19 F hinit (o_uF (o_uF (o_uF hO0))) dX0_init_22 ?_
  refine q_aload_n F 0 dX0_init_25 rfl rfl ?_
  refine q_iload F dX0_init_26 rfl ?_
  refine qp_X0_22 F hinit (o_uF (o_uF (o_uF (o_uF hO0)))) dX0_init_28 ?_
  refine q_aload_n F 0 dX0_init_31 rfl rfl ?_
  refine q_iload F dX0_init_32 rfl ?_
  refine qp_X0_25 F hinit (o_uF (o_uF (o_uF (o_uF (o_uF hO0))))) dX0_init_34 ?_
  refine q_aload_n F 0 dX0_init_37 rfl rfl ?_
  refine q_iload F dX0_init_38 rfl ?_
  refine qp_X0_28 F hinit (o_uF (o_uF (o_uF (o_uF (o_uF (o_uF hO0)))))) dX0_init_40 ?_
  exact (q_retv F hr dX0_init_43 (Nat.le_of_ble_eq_true rfl) (Nat.le_of_ble_eq_true rfl) ⟨rfl, rfl⟩)

set_option maxHeartbeats 4000000 in
set_option maxRecDepth 100000 in
theorem c_X3_init {l : Launch} {g : hG} {X : va_W} {S : hS} {a : Nat} {x0 x1 x2 : Int32} (hO3 : isO S a 3) : hMet l yX3_init wsX3_init rm_X3_init g X S [.ref a, .int x0, .int x1, .int x2] (pV (spanI S a x0 x1 x2)) := by
  refine h_start (maxL := 4) (ret := none) (by decide) rfl (Nat.le_of_ble_eq_true rfl) ?_
  intro p e s m args below meth c F hr hinit
  refine q_aload_n F 0 dX3_init_0 rfl rfl ?_
  refine q_objInit F (List.mem_of_getElem? (i := 180) (by decide +kernel)) dX3_init_1 ⟨Nat.le_of_ble_eq_true rfl, Nat.le_of_ble_eq_true rfl⟩ ?_
  refine q_aload_n F 0 dX3_init_4 rfl rfl ?_
  refine q_iload_n F 1 dX3_init_5 rfl rfl ?_
  refine qp_X3_7 F hinit hO3 dX3_init_6 ?_
  refine q_aload_n F 0 dX3_init_9 rfl rfl ?_
  refine q_iload_n F 2 dX3_init_10 rfl rfl ?_
  refine qp_X3_13 F hinit (o_uF hO3) dX3_init_11 ?_
  refine q_aload_n F 0 dX3_init_14 rfl rfl ?_
  refine q_iload_n F 3 dX3_init_15 rfl rfl ?_
  refine qp_X3_16 F hinit (o_uF (o_uF hO3)) dX3_init_16 ?_
  exact (q_retv F hr dX3_init_19 (Nat.le_of_ble_eq_true rfl) (Nat.le_of_ble_eq_true rfl) ⟨rfl, rfl⟩)

set_option maxHeartbeats 4000000 in
set_option maxRecDepth 100000 in
theorem c_X1_init {l : Launch} {g : hG} {X : va_W} {S : hS} {a : Nat} (hO1 : isO S a 1) : hMet l yX1_init wsX1_init rm_X1_init g X S [.ref a] (pGV (fun S' => ∃ q, q ∉ sL S ∧ S' = uR (nA S 10 q 4) 14 a (some q))) := by
  refine h_start (maxL := 1) (ret := none) (by decide) rfl (Nat.le_of_ble_eq_true rfl) ?_
  intro p e s m args below meth c F hr hinit
  refine q_aload_n F 0 dX1_init_0 rfl rfl ?_
  refine q_objInit F (List.mem_of_getElem? (i := 22) (by decide +kernel)) dX1_init_1 ⟨Nat.le_of_ble_eq_true rfl, Nat.le_of_ble_eq_true rfl⟩ ?_
  refine q_aload_n F 0 dX1_init_4 rfl rfl ?_
  refine q_iconst F dX1_init_5 hc_4 ?_
  refine qan_X1_9 F ⟨Nat.le_of_ble_eq_true rfl, Nat.le_of_ble_eq_true rfl⟩ dX1_init_6 (fun q6 hqq6 => ?_)
  refine qp_X1_11 F hinit (isO_nA' hO1 hqq6) dX1_init_9 ?_
  exact (q_retv F hr dX1_init_12 (Nat.le_of_ble_eq_true rfl) (Nat.le_of_ble_eq_true rfl) ⟨rfl, q6, hqq6, rfl⟩)


