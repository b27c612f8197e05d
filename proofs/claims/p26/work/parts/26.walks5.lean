set_option maxHeartbeats 4000000 in
set_option maxRecDepth 100000 in
theorem c_X4_init {l : Launch} {g : hG} {X : va_W} {S : hS} {h : Nat} (hO4 : isO S h 4) (hz : ∀ x, sF S x h = 0) : hMet l yX4_init wsX4_init rm_X4_init g X S [.ref h] (pGV (fun S' => ∃ bk ca sa ad pa, cP S S' h bk ca sa ad pa sc0 M0 0 0 0)) := by
  refine h_start (maxL := 2) (ret := none) (by decide) rfl (Nat.le_of_ble_eq_true rfl) ?_
  intro p e s m args below meth c F hr hinit
  refine q_aload_n F 0 dX4_init_0 rfl rfl ?_
  refine q_objInit F (List.mem_of_getElem? (i := 7) (by decide +kernel)) dX4_init_1 ⟨Nat.le_of_ble_eq_true rfl, Nat.le_of_ble_eq_true rfl⟩ ?_
  refine q_aload_n F 0 dX4_init_4 rfl rfl ?_
  refine q_bipush (v := 40) F dX4_init_5 (by decide) ?_
  refine qan_X4_9 F ⟨Nat.le_of_ble_eq_true rfl, Nat.le_of_ble_eq_true rfl⟩ dX4_init_7 (fun q7 hqq7 => ?_)
  refine qp_X4_11 F hinit (isO_nA' hO4 hqq7) dX4_init_10 ?_
  refine q_aload_n F 0 dX4_init_13 rfl rfl ?_
  refine q_bipush (v := 20) F dX4_init_14 (by decide) ?_
  refine qan_X4_15 F ⟨Nat.le_of_ble_eq_true rfl, Nat.le_of_ble_eq_true rfl⟩ dX4_init_16 (fun q16 hqq16 => ?_)
  refine qp_X4_17 F hinit (isO_nA' (o_uR (isO_nA' hO4 hqq7)) hqq16) dX4_init_19 ?_
  refine q_aload_n F 0 dX4_init_22 rfl rfl ?_
  refine q_bipush (v := 20) F dX4_init_23 (by decide) ?_
  refine qan_X4_21 F ⟨Nat.le_of_ble_eq_true rfl, Nat.le_of_ble_eq_true rfl⟩ dX4_init_25 (fun q25 hqq25 => ?_)
  refine qp_X4_23 F hinit (isO_nA' (o_uR (isO_nA' (o_uR (isO_nA' hO4 hqq7)) hqq16)) hqq25) dX4_init_28 ?_
  refine q_aload_n F 0 dX4_init_31 rfl rfl ?_
  refine q_iconst F dX4_init_32 hc_1 ?_
  refine qp_X4_27 F (o_uR (isO_nA' (o_uR (isO_nA' (o_uR (isO_nA' hO4 hqq7)) hqq16)) hqq25)) dX4_init_33 ?_
  refine q_aload_n F 0 dX4_init_36 rfl rfl ?_
  refine q_iconst F dX4_init_37 hc_m1 ?_
  refine qp_X4_31 F (o_uF (o_uR (isO_nA' (o_uR (isO_nA' (o_uR (isO_nA' hO4 hqq7)) hqq16)) hqq25))) dX4_init_38 ?_
  refine q_iconst F dX4_init_41 hc_0 ?_
  refine q_istore_n F 1 dX4_init_42 rfl (by decide) rfl ?_
  have L : ∀ (r j : Nat) (S1 : hS) (bk ca sa : Nat) (ad pa : Nat → Nat), j + r = 40 → inI S S1 h bk ca sa ad pa j → V p l e rm_X4_init s m args below meth c 2 g X (MQ below (hQ g X (pGV (fun S' => ∃ bk ca sa ad pa, cP S S' h bk ca sa ad pa sc0 M0 0 0 0))) args s rm_X4_init.cells rm_X4_init.slots (hA g)) S1 (3 + 2 * j) (80 + 14 * j) [(0, .ref h), (1, .int (nI j))] 43 [] := by
    intro r
    induction r with
    | zero =>
      intro j S1 bk ca sa ad pa hjr hD
      have hjn : j = 40 := by omega
      subst hjn
      refine q_iload_n F 1 dX4_init_43 rfl rfl ?_
      refine q_bipush (v := 40) F dX4_init_44 (by decide) ?_
      refine q_icmp_ge F 68 dX4_init_46 rfl (fun c46 => ?_) (fun c46 => ?_)
      · exact (q_retv F hr dX4_init_68 (Nat.le_of_ble_eq_true rfl) (Nat.le_of_ble_eq_true rfl) ⟨rfl, _, _, _, _, _, inI_e hD hz⟩)
      exact absurd c46 (gT (n := 40) (j := 40) rfl rfl (Nat.le_refl _) (by omega))
    | succ r ih =>
      intro j S1 bk ca sa ad pa hjr hD
      have hj : j < 40 := by omega
      refine q_iload_n F 1 dX4_init_43 rfl rfl ?_
      refine q_bipush (v := 40) F dX4_init_44 (by decide) ?_
      refine q_icmp_ge F 68 dX4_init_46 rfl (fun c46 => ?_) (fun c46 => ?_)
      · exact absurd c46 (gF (n := 40) rfl rfl hj (by omega))
      refine q_aload_n F 0 dX4_init_49 rfl rfl ?_
      refine qg_X4_11 F hD.2.2.1.1 hD.2.1 dX4_init_50 ?_
      refine q_iload_n F 1 dX4_init_53 rfl rfl ?_
      refine qn_X4_9 F ⟨by show 3 + 2 * j + 1 ≤ 83; omega, by show 80 + 14 * j + 10 ≤ 640; omega⟩ dX4_init_54 (fun q54 hqq54 => ?_)
      refine q_dup F dX4_init_57 rfl ?_
      refine q_callIN_gv F (c_X1_init (isO_nO S1 1 q54)) gX4_init_X1_init_n34 rfl hd_X1_init ⟨Nat.le_of_ble_eq_true rfl, Nat.le_of_ble_eq_true rfl⟩ (List.mem_of_getElem? (i := 19) (by decide +kernel)) (List.mem_of_getElem? (i := 0) rfl) (List.mem_of_getElem? (i := 20) (by decide +kernel)) rfl rfl rfl (Nat.le_of_ble_eq_true rfl) dX4_init_58 ⟨by show 3 + 2 * j + 1 + 1 ≤ 83; omega, by show 80 + 14 * j + 10 + 4 ≤ 640; omega⟩ (fun S58 hp58 => ?_)
      obtain ⟨qa, hqa, rfl⟩ := hp58
      refine q_pool (S' := uR (nA (nO S1 1 q54) 10 qa 4) 14 q54 (some qa)) ?_ rfl
      have hAB := inA_uR (x' := 14) (a := q54) (v := some qa) (inA_nA (k' := 10) (n := 4) (inA_nO (k' := 1) hD.2.2.1 hD.2.1.1 hqq54) hqa) (by omega)
      refine q_aast_l F hAB.2.1 hAB.2.2 rfl (show j < 40 by omega) (by decide) (o_uR (isO_nA' (isO_nO _ 1 q54) hqa)) dX4_init_61 ?_
      refine q_iinc F (nI (j + 1)) dX4_init_62 rfl (nI_inc j) (by decide) rfl ?_
      refine q_goto F 43 dX4_init_65 rfl ?_
      exact q_widen (show 3 + 2 * j + 1 + 1 ≤ 3 + 2 * (j + 1) by omega) (show 80 + 14 * j + 10 + 4 ≤ 80 + 14 * (j + 1) by omega) (q_to (ih (j + 1) _ _ _ _ _ _ (by omega) (inI_s hD hqq54 hqa)) ⟨rfl, rfl, trivial⟩)
  exact q_to (L 40 0 _ _ _ _ _ _ (by omega) (inI_0 hO4 hqq7 hqq16 hqq25)) ⟨rfl, rfl, trivial⟩


