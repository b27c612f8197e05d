set_option maxHeartbeats 4000000 in
set_option maxRecDepth 100000 in
theorem c_X1_takePattern {l : Launch} {g : hG} {X : va_W} {S : hS} (hst : l.stackTraces = false) {a pa k : Nat} {name places port den : Int32} (hg : lnG S a pa) (hk : sF S 15 a = nI k) (hk4 : k ≤ 4) (hB : isB den) : hMetX l yX1_takePattern wsX1_takePattern rm_X1_takePattern g X S [.ref a, .int name, .int places, .int port, .int den] (pGI (fun r S' => (sF S 16 a = 0 ∧ k < 4) ∧ r = nI (k + 1) ∧ ∃ q, q ∉ sL S ∧ S' = patS S a pa q k name places port den)) (pE S (pe1 (decide (sF S 16 a = 0) && decide (k < 4)) xIS)) := by
  refine h_startX (maxL := 5) (ret := (some .int)) (by decide) rfl (Nat.le_of_ble_eq_true rfl) ?_
  intro p e s m args below meth c F hr ht
  refine q_aload_n F 0 dX1_takePattern_0 rfl rfl ?_
  refine qg_X1_33 F hg.1 dX1_takePattern_1 ?_
  refine q_if_ne F 15 dX1_takePattern_4 rfl (fun c4 => ?_) (fun c4 => ?_)
  · exact qt_X1_39 F hst ht dX1_takePattern_15 dX1_takePattern_18 dX1_takePattern_19 dX1_takePattern_21 dX1_takePattern_24 ⟨Nat.le_of_ble_eq_true rfl, Nat.le_of_ble_eq_true rfl⟩ ⟨Nat.le_of_ble_eq_true rfl, Nat.le_of_ble_eq_true rfl⟩ (Nat.le_of_ble_eq_true rfl) (Nat.le_of_ble_eq_true rfl) ⟨rfl, by first | (rw [decide_eq_false c4]; rfl) | (rw [decide_eq_false (nlt_of_nI (N := 4) hk (by omega) (by omega) c12), Bool.and_false]), rfl⟩
  refine q_aload_n F 0 dX1_takePattern_7 rfl rfl ?_
  refine qg_X1_30 F hg.1 dX1_takePattern_8 ?_
  refine q_iconst F dX1_takePattern_11 hc_4 ?_
  refine q_icmp_lt F 25 dX1_takePattern_12 rfl (fun c12 => ?_) (fun c12 => ?_)
  · have hlt : k < 4 := lt_of_nI (N := 4) hk (by omega) (by omega) c12
    have c16 : sF S 16 a = 0   := c4
    refine q_aload_n F 0 dX1_takePattern_25 rfl rfl ?_
    refine qg_X1_11 F hg.2.1 hg.1 dX1_takePattern_26 ?_
    refine q_aload_n F 0 dX1_takePattern_29 rfl rfl ?_
    refine qg_X1_30 F hg.1 dX1_takePattern_30 ?_
    refine qn_X1_9 F ⟨Nat.le_of_ble_eq_true rfl, Nat.le_of_ble_eq_true rfl⟩ dX1_takePattern_33 (fun q33 hqq33 => ?_)
    refine q_dup F dX1_takePattern_36 rfl ?_
    refine q_iload_n F 1 dX1_takePattern_37 rfl rfl ?_
    refine q_iload_n F 2 dX1_takePattern_38 rfl rfl ?_
    refine q_iload_n F 3 dX1_takePattern_39 rfl rfl ?_
    refine q_iload F dX1_takePattern_40 rfl ?_
    refine q_callI_v F (c_X2_init (isO_nO S 2 q33) hB) gX1_takePattern_X2_init rfl hd_X2_init ⟨Nat.le_of_ble_eq_true rfl, Nat.le_of_ble_eq_true rfl⟩ (List.mem_of_getElem? (i := 66) (by decide +kernel)) (List.mem_of_getElem? (i := 146) (by decide +kernel)) (List.mem_of_getElem? (i := 147) (by decide +kernel)) rfl rfl rfl (Nat.le_of_ble_eq_true rfl) dX1_takePattern_42 ⟨Nat.le_of_ble_eq_true rfl, Nat.le_of_ble_eq_true rfl⟩ ?_
    refine q_aast_p F (o_uF (o_uF (o_uF (o_uF (isO_nO' hg.2.2.1 hqq33))))) (n_uF (n_uF (n_uF (n_uF (n_nO hg.2.2.2))))) hk hlt (by decide) (o_uF (o_uF (o_uF (o_uF (isO_nO _ 2 q33))))) dX1_takePattern_45 ?_
    refine q_aload_n F 0 dX1_takePattern_46 rfl rfl ?_
    refine q_dup F dX1_takePattern_47 rfl ?_
    refine qg_X1_30 F (o_uB (o_uF (o_uF (o_uF (o_uF (isO_nO' hg.1 hqq33)))))) dX1_takePattern_48 ?_
    refine q_iconst F dX1_takePattern_51 hc_1 ?_
    refine q_iadd F dX1_takePattern_52 ?_
    refine q_top (v' := .int (nI (k + 1))) ?_ (congrArg Value.int (patT_inc (pa := pa) (q := q33) (k := k) hg.1 hqq33 hk))
    refine qp_X1_30 F (o_uB (o_uF (o_uF (o_uF (o_uF (isO_nO' hg.1 hqq33)))))) dX1_takePattern_53 ?_
    refine q_pool (S' := patS S a pa q33 k name places port den) ?_ rfl
    refine q_aload_n F 0 dX1_takePattern_56 rfl rfl ?_
    refine qg_X1_30 F ((clF_patS a pa k name places port den hqq33).1 _ _ hg.1) dX1_takePattern_57 ?_
    exact q_x (q_reti F hr rfl dX1_takePattern_60 (Nat.le_of_ble_eq_true rfl) (Nat.le_of_ble_eq_true rfl) ⟨_, rfl, ⟨c16, hlt⟩, by unfold patS; rw [sF_uF, if_pos ⟨rfl, rfl⟩], q33, hqq33, rfl⟩)
  exact qt_X1_39 F hst ht dX1_takePattern_15 dX1_takePattern_18 dX1_takePattern_19 dX1_takePattern_21 dX1_takePattern_24 ⟨Nat.le_of_ble_eq_true rfl, Nat.le_of_ble_eq_true rfl⟩ ⟨Nat.le_of_ble_eq_true rfl, Nat.le_of_ble_eq_true rfl⟩ (Nat.le_of_ble_eq_true rfl) (Nat.le_of_ble_eq_true rfl) ⟨rfl, by first | (rw [decide_eq_false c4]; rfl) | (rw [decide_eq_false (nlt_of_nI (N := 4) hk (by omega) (by omega) c12), Bool.and_false]), rfl⟩

set_option maxHeartbeats 4000000 in
set_option maxRecDepth 100000 in
theorem c_X4_appendLine {l : Launch} {g : hG} {X : va_W} {S : hS} (hst : l.stackTraces = false) {h bk ca sa : Nat} {ad pa : Nat → Nat} {sc : Nat → Int32} {M : Nat → Nat → Int32} {n nc ns : Nat} (hG : cG S h bk ca sa ad pa) (hC : cC S h ca sa ad pa sc M n nc ns) {mk key : Int32} : hMetX l yX4_appendLine wsX4_appendLine rm_X4_appendLine g X S [.ref h, .int mk, .int key] (pXA (ad n) (appS S h (ad n) n mk key (sc 1)) (n < 40)) (pE S (pe1 (decide (n < 40)) xIS)) := by
  refine h_startX (maxL := 4) (ret := (some (.object "HostKeyring$Line"))) (by decide) rfl (Nat.le_of_ble_eq_true rfl) ?_
  intro p e s m args below meth c F hr ht
  have hn40 := hC.1.2.2
  refine q_aload_n F 0 dX4_appendLine_0 rfl rfl ?_
  refine qg_X4_47 F hG.1 dX4_appendLine_1 ?_
  refine q_bipush (v := 40) F dX4_appendLine_4 (by decide) ?_
  refine q_icmp_lt F 19 dX4_appendLine_6 rfl (fun c6 => ?_) (fun c6 => ?_)
  · have hlt : n < 40 := lt_of_nI (N := 40) hC.1.1 (by omega) (by omega) c6
    refine q_aload_n F 0 dX4_appendLine_19 rfl rfl ?_
    refine qg_X4_11 F hG.2.1.1 hG.1 dX4_appendLine_20 ?_
    refine q_aload_n F 0 dX4_appendLine_23 rfl rfl ?_
    refine qg_X4_47 F hG.1 dX4_appendLine_24 ?_
    refine q_aald_l F hG.2.1.2.1 hG.2.1.2.2 hC.1.1 hlt (by decide) (hG.2.2.2.2.1 _ hlt).1 dX4_appendLine_27 ?_
    refine q_astore_n F 3 dX4_appendLine_28 rfl (by decide) rfl ?_
    refine q_aload_n F 0 dX4_appendLine_29 rfl rfl ?_
    refine q_dup F dX4_appendLine_30 rfl ?_
    refine qg_X4_47 F hG.1 dX4_appendLine_31 ?_
    refine q_iconst F dX4_appendLine_34 hc_1 ?_
    refine q_iadd F dX4_appendLine_35 ?_
    refine q_top (v' := .int (nI (n + 1))) ?_ (congrArg Value.int (by rw [hC.1.1, nI_1]))
    refine qp_X4_47 F hG.1 dX4_appendLine_36 ?_
    refine q_aload_n F 3 dX4_appendLine_39 rfl rfl ?_
    refine q_iload_n F 1 dX4_appendLine_40 rfl rfl ?_
    refine q_iload_n F 2 dX4_appendLine_41 rfl rfl ?_
    refine q_aload_n F 0 dX4_appendLine_42 rfl rfl ?_
    refine qg_X4_146 F (o_uF hG.1) dX4_appendLine_43 ?_
    refine q_top (v' := .int (sc 1)) ?_ (congrArg Value.int (by rw [sF_uF, if_neg (by omega)]; exact hC.2.2.2.2.1.1))
    refine q_callV_v F (c_X1_begin (o_uF (hG.2.2.2.2.1 _ hlt).2.1)) gX4_appendLine_X1_begin rfl hd_X1_begin ⟨Nat.le_of_ble_eq_true rfl, Nat.le_of_ble_eq_true rfl⟩ (o_uF (hG.2.2.2.2.1 _ hlt).2.1) rfl rfl rfl (Nat.le_of_ble_eq_true rfl) dX4_appendLine_46 ⟨Nat.le_of_ble_eq_true rfl, Nat.le_of_ble_eq_true rfl⟩ ?_
    refine q_aload_n F 3 dX4_appendLine_49 rfl rfl ?_
    exact q_x (q_reta F hr (Or.inl ⟨_, rfl⟩) (Or.inr ⟨_, rfl⟩) dX4_appendLine_50 (Nat.le_of_ble_eq_true rfl) (Nat.le_of_ble_eq_true rfl) ⟨rfl, rfl, hlt⟩)
  exact qt_X4_177 F hst ht dX4_appendLine_9 dX4_appendLine_12 dX4_appendLine_13 dX4_appendLine_15 dX4_appendLine_18 ⟨Nat.le_of_ble_eq_true rfl, Nat.le_of_ble_eq_true rfl⟩ ⟨Nat.le_of_ble_eq_true rfl, Nat.le_of_ble_eq_true rfl⟩ (Nat.le_of_ble_eq_true rfl) (Nat.le_of_ble_eq_true rfl) ⟨rfl, decide_eq_false (nlt_of_nI (N := 40) hC.1.1 (by omega) (by omega) c6), rfl⟩

set_option maxHeartbeats 4000000 in
set_option maxRecDepth 100000 in
theorem c_X4_appendLine0 {l : Launch} {g : hG} {X : va_W} {S : hS} {h bk ca sa : Nat} {ad pa : Nat → Nat} {sc : Nat → Int32} {M : Nat → Nat → Int32} {n nc ns : Nat} (hG : cG S h bk ca sa ad pa) (hC : cC S h ca sa ad pa sc M n nc ns) {mk key : Int32} (hlt : n < 40) : hMet l yX4_appendLine wsX4_appendLine rm_X4_appendLine0 g X S [.ref h, .int mk, .int key] (pA (ad n) (appS S h (ad n) n mk key (sc 1))) := by
  refine h_start (maxL := 4) (ret := (some (.object "HostKeyring$Line"))) (by decide) rfl (Nat.le_of_ble_eq_true rfl) ?_
  intro p e s m args below meth c F hr hinit
  have hn40 := hC.1.2.2
  refine q_aload_n F 0 dX4_appendLine_0 rfl rfl ?_
  refine qg_X4_47 F hG.1 dX4_appendLine_1 ?_
  refine q_bipush (v := 40) F dX4_appendLine_4 (by decide) ?_
  refine q_icmp_lt F 19 dX4_appendLine_6 rfl (fun c6 => ?_) (fun c6 => ?_)
  · refine q_aload_n F 0 dX4_appendLine_19 rfl rfl ?_
    refine qg_X4_11 F hG.2.1.1 hG.1 dX4_appendLine_20 ?_
    refine q_aload_n F 0 dX4_appendLine_23 rfl rfl ?_
    refine qg_X4_47 F hG.1 dX4_appendLine_24 ?_
    refine q_aald_l F hG.2.1.2.1 hG.2.1.2.2 hC.1.1 hlt (by decide) (hG.2.2.2.2.1 _ hlt).1 dX4_appendLine_27 ?_
    refine q_astore_n F 3 dX4_appendLine_28 rfl (by decide) rfl ?_
    refine q_aload_n F 0 dX4_appendLine_29 rfl rfl ?_
    refine q_dup F dX4_appendLine_30 rfl ?_
    refine qg_X4_47 F hG.1 dX4_appendLine_31 ?_
    refine q_iconst F dX4_appendLine_34 hc_1 ?_
    refine q_iadd F dX4_appendLine_35 ?_
    refine q_top (v' := .int (nI (n + 1))) ?_ (congrArg Value.int (by rw [hC.1.1, nI_1]))
    refine qp_X4_47 F hG.1 dX4_appendLine_36 ?_
    refine q_aload_n F 3 dX4_appendLine_39 rfl rfl ?_
    refine q_iload_n F 1 dX4_appendLine_40 rfl rfl ?_
    refine q_iload_n F 2 dX4_appendLine_41 rfl rfl ?_
    refine q_aload_n F 0 dX4_appendLine_42 rfl rfl ?_
    refine qg_X4_146 F (o_uF hG.1) dX4_appendLine_43 ?_
    refine q_top (v' := .int (sc 1)) ?_ (congrArg Value.int (by rw [sF_uF, if_neg (by omega)]; exact hC.2.2.2.2.1.1))
    refine q_callV_v F (c_X1_begin (o_uF (hG.2.2.2.2.1 _ hlt).2.1)) gX4_appendLine_X1_begin rfl hd_X1_begin ⟨Nat.le_of_ble_eq_true rfl, Nat.le_of_ble_eq_true rfl⟩ (o_uF (hG.2.2.2.2.1 _ hlt).2.1) rfl rfl rfl (Nat.le_of_ble_eq_true rfl) dX4_appendLine_46 ⟨Nat.le_of_ble_eq_true rfl, Nat.le_of_ble_eq_true rfl⟩ ?_
    refine q_aload_n F 3 dX4_appendLine_49 rfl rfl ?_
    exact (q_reta F hr (Or.inl ⟨_, rfl⟩) (Or.inr ⟨_, rfl⟩) dX4_appendLine_50 (Nat.le_of_ble_eq_true rfl) (Nat.le_of_ble_eq_true rfl) ⟨rfl, rfl⟩)
  exact absurd c6 (not_not_intro (by rw [hC.1.1]; exact (n_lt 40 (by omega) (by omega)).mpr hlt))

set_option maxHeartbeats 4000000 in
set_option maxRecDepth 100000 in
theorem c_X4_appendSighted {l : Launch} {g : hG} {X : va_W} {S : hS} (hst : l.stackTraces = false) {h bk ca sa : Nat} {ad pa : Nat → Nat} {sc : Nat → Int32} {M : Nat → Nat → Int32} {n nc ns : Nat} (hG : cG S h bk ca sa ad pa) (hC : cC S h ca sa ad pa sc M n nc ns) {name port key : Int32} (hv1 : okN name = true) (hv2 : okK key = true) : hMetX l yX4_appendSighted wsX4_appendSighted rm_X4_appendSighted g X S [.ref h, .int name, .int port, .int key] (pGV (fun S' => n < 40 ∧ cP S S' h bk ca sa ad pa (scN sc (n + 1)) (aTr sc M n name port key) (n + 1) nc ns)) (pE S (pe1 (decide (n < 40)) xIS)) := by
  refine h_startX (maxL := 5) (ret := none) (by decide) rfl (Nat.le_of_ble_eq_true rfl) ?_
  intro p e s m args below meth c F hr ht
  refine q_aload_n F 0 dX4_appendSighted_0 rfl rfl ?_
  refine q_iconst F dX4_appendSighted_1 hc_0 ?_
  refine q_iload_n F 3 dX4_appendSighted_2 rfl rfl ?_
  refine q_callVX_a F (c_X4_appendLine hst hG hC) gX4_appendSighted_X4_appendLine rfl hd_X4_appendLine ⟨Nat.le_of_ble_eq_true rfl, Nat.le_of_ble_eq_true rfl⟩ hG.1 rfl rfl rfl (Nat.le_of_ble_eq_true rfl) dX4_appendSighted_3 ⟨Nat.le_of_ble_eq_true rfl, Nat.le_of_ble_eq_true rfl⟩ (fun E hE => q_out F ht (Nat.le_of_ble_eq_true rfl) (Nat.le_of_ble_eq_true rfl) ⟨rfl, hE⟩) (fun k3 => ?_)
  have hG1 := cG_appS (a := ad n) (n := n) (mk := 0) (key := key) (day := sc 1) hG
  have hC1 := cC_append (mk := 0) (key := key) (day := sc 1) hG hC k3
  have hc1 := clF_appS S h (ad n) n 0 key (sc 1)
  have hln := (hG1.2.2.2.2.1 n k3).2.1
  have h48 : sF (appS S h (ad n) n 0 key (sc 1)) 48 h = sc 3 := hC1.2.2.2.2.1.2.2.1
  refine q_astore F dX4_appendSighted_6 (by decide) rfl ?_
  refine q_aload_n F 0 dX4_appendSighted_8 rfl rfl ?_
  refine qg_X4_95 F ((clF_appS _ _ _ _ _ _ _).1 _ _ hG.1) dX4_appendSighted_9 ?_
  refine q_if_eq F 34 dX4_appendSighted_12 rfl (fun c12 => ?_) (fun c12 => ?_)
  · refine q_aload F dX4_appendSighted_34 rfl ?_
    refine q_iload_n F 1 dX4_appendSighted_36 rfl rfl ?_
    refine q_bipush (v := 15) F dX4_appendSighted_37 (by decide) ?_
    refine q_iload_n F 2 dX4_appendSighted_39 rfl rfl ?_
    refine q_iconst F dX4_appendSighted_40 hc_0 ?_
    refine q_callVX_gi F (c_X1_takePattern hst (hG1.2.2.2.2.1 n k3).2 appS_16.2 (by omega) (Or.inl rfl)) gX4_appendSighted_X1_takePattern rfl hd_X1_takePattern ⟨Nat.le_of_ble_eq_true rfl, Nat.le_of_ble_eq_true rfl⟩ hln rfl rfl rfl (Nat.le_of_ble_eq_true rfl) dX4_appendSighted_41 ⟨Nat.le_of_ble_eq_true rfl, Nat.le_of_ble_eq_true rfl⟩ (fun E hE => absurd hE.1 (by rw [appS_16.1]; decide)) (fun r41 S41 hp41 => ?_)
    obtain ⟨-, -, q, hq, rfl⟩ := hp41
    refine q_pop F dX4_appendSighted_44 rfl ?_
    exact q_x (q_retv F hr dX4_appendSighted_45 (Nat.le_of_ble_eq_true rfl) (Nat.le_of_ble_eq_true rfl) ⟨rfl, k3, by unfold aTr; first | (rw [if_neg (by rw [← h48]; exact c12)]; exact ⟨cG_hashS hG1, cC_hash hG1 hC1 (by omega) (salt_ok hv1 hv2), hc1.trans (clF_hashS _ _ _ _ _)⟩) | (rw [if_pos (by rw [← h48]; exact c12)]; exact ⟨cG_patS _ _ _ _ _ hG1 hq (hG1.2.2.2.2.1 n k3).2.2.2.1, cC_pat hG1 hC1 (by omega) hq appS_16.2 (by omega), hc1.trans (clF_patS _ _ _ _ _ _ _ hq)⟩)⟩)
  refine q_aload F dX4_appendSighted_15 rfl ?_
  refine q_iload_n F 1 dX4_appendSighted_17 rfl rfl ?_
  refine q_iload_n F 2 dX4_appendSighted_18 rfl rfl ?_
  refine q_bipush (v := 7) F dX4_appendSighted_19 (by decide) ?_
  refine q_iload_n F 1 dX4_appendSighted_21 rfl rfl ?_
  refine q_imul F dX4_appendSighted_22 ?_
  refine q_iload_n F 3 dX4_appendSighted_23 rfl rfl ?_
  refine q_iadd F dX4_appendSighted_24 ?_
  refine q_bipush (v := 100) F dX4_appendSighted_25 (by decide) ?_
  refine q_irem F dX4_appendSighted_27 (by decide) ?_
  refine q_callV_v F (c_X1_takeHash hln) gX4_appendSighted_X1_takeHash rfl hd_X1_takeHash ⟨Nat.le_of_ble_eq_true rfl, Nat.le_of_ble_eq_true rfl⟩ hln rfl rfl rfl (Nat.le_of_ble_eq_true rfl) dX4_appendSighted_28 ⟨Nat.le_of_ble_eq_true rfl, Nat.le_of_ble_eq_true rfl⟩ ?_
  refine q_goto F 45 dX4_appendSighted_31 rfl ?_
  exact q_x (q_retv F hr dX4_appendSighted_45 (Nat.le_of_ble_eq_true rfl) (Nat.le_of_ble_eq_true rfl) ⟨rfl, k3, by unfold aTr; first | (rw [if_neg (by rw [← h48]; exact c12)]; exact ⟨cG_hashS hG1, cC_hash hG1 hC1 (by omega) (salt_ok hv1 hv2), hc1.trans (clF_hashS _ _ _ _ _)⟩) | (rw [if_pos (by rw [← h48]; exact c12)]; exact ⟨cG_patS _ _ _ _ _ hG1 hq (hG1.2.2.2.2.1 n k3).2.2.2.1, cC_pat hG1 hC1 (by omega) hq appS_16.2 (by omega), hc1.trans (clF_patS _ _ _ _ _ _ _ hq)⟩)⟩)

set_option maxHeartbeats 4000000 in
set_option maxRecDepth 100000 in
theorem c_X4_addLine {l : Launch} {g : hG} {X : va_W} {S : hS} (hst : l.stackTraces = false) {h bk ca sa : Nat} {ad pa : Nat → Nat} {sc : Nat → Int32} {M : Nat → Nat → Int32} {n nc ns : Nat} (hG : cG S h bk ca sa ad pa) (hC : cC S h ca sa ad pa sc M n nc ns) {mk key : Int32} : hMetX l yX4_addLine wsX4_addLine rm_X4_addLine g X S [.ref h, .int mk, .int key] (pGI (fun r S' => ((inR mk 0 2 && okK key) = true ∧ n < 40) ∧ r = nI n ∧ cP S S' h bk ca sa ad pa (scN sc (n + 1)) (aAdd M n mk key (sc 1)) (n + 1) nc ns)) (pE S (pe2 (inR mk 0 2 && okK key) (decide (n < 40)) xIA xIS)) := by
  refine h_startX (maxL := 3) (ret := (some .int)) (by decide) rfl (Nat.le_of_ble_eq_true rfl) ?_
  intro p e s m args below meth c F hr ht
  refine q_iload_n F 1 dX4_addLine_0 rfl rfl ?_
  refine q_iconst F dX4_addLine_1 hc_0 ?_
  refine q_iconst F dX4_addLine_2 hc_2 ?_
  refine q_callSX_v F (c_X4_requireWithin hst) gX4_addLine_X4_requireWithin rfl hd_X4_requireWithin ⟨Nat.le_of_ble_eq_true rfl, Nat.le_of_ble_eq_true rfl⟩ rfl rfl (Nat.le_of_ble_eq_true rfl) dX4_addLine_3 ⟨Nat.le_of_ble_eq_true rfl, Nat.le_of_ble_eq_true rfl⟩ (fun E hE => q_out F ht (Nat.le_of_ble_eq_true rfl) (Nat.le_of_ble_eq_true rfl) ⟨rfl, Or.inl ⟨by rw [hE.1]; rfl, hE.2⟩⟩) (fun k3 => ?_)
  refine q_iload_n F 2 dX4_addLine_6 rfl rfl ?_
  refine q_callSX_v F (c_X4_requireKey hst) gX4_addLine_X4_requireKey rfl hd_X4_requireKey ⟨Nat.le_of_ble_eq_true rfl, Nat.le_of_ble_eq_true rfl⟩ rfl rfl (Nat.le_of_ble_eq_true rfl) dX4_addLine_7 ⟨Nat.le_of_ble_eq_true rfl, Nat.le_of_ble_eq_true rfl⟩ (fun E hE => q_out F ht (Nat.le_of_ble_eq_true rfl) (Nat.le_of_ble_eq_true rfl) ⟨rfl, Or.inl ⟨by rw [hE.1, Bool.and_false], hE.2⟩⟩) (fun k7 => ?_)
  refine q_aload_n F 0 dX4_addLine_10 rfl rfl ?_
  refine q_iload_n F 1 dX4_addLine_11 rfl rfl ?_
  refine q_iload_n F 2 dX4_addLine_12 rfl rfl ?_
  refine q_callVX_a F (c_X4_appendLine hst hG hC) gX4_addLine_X4_appendLine rfl hd_X4_appendLine ⟨Nat.le_of_ble_eq_true rfl, Nat.le_of_ble_eq_true rfl⟩ hG.1 rfl rfl rfl (Nat.le_of_ble_eq_true rfl) dX4_addLine_13 ⟨Nat.le_of_ble_eq_true rfl, Nat.le_of_ble_eq_true rfl⟩ (fun E hE => q_out F ht (Nat.le_of_ble_eq_true rfl) (Nat.le_of_ble_eq_true rfl) ⟨rfl, Or.inr ⟨by rw [k3, k7]; rfl, hE⟩⟩) (fun k13 => ?_)
  have hG1 := cG_appS (a := ad n) (n := n) (mk := mk) (key := key) (day := sc 1) hG
  have hC1 := cC_append (mk := mk) (key := key) (day := sc 1) hG hC k13
  have hc1 := clF_appS S h (ad n) n mk key (sc 1)
  have hln := (hG1.2.2.2.2.1 n k13).2.1
  refine q_pop F dX4_addLine_16 rfl ?_
  refine q_aload_n F 0 dX4_addLine_17 rfl rfl ?_
  refine qg_X4_47 F ((clF_appS _ _ _ _ _ _ _).1 _ _ hG.1) dX4_addLine_18 ?_
  refine q_iconst F dX4_addLine_21 hc_1 ?_
  refine q_isub F dX4_addLine_22 ?_
  exact q_x (q_reti F hr rfl dX4_addLine_23 (Nat.le_of_ble_eq_true rfl) (Nat.le_of_ble_eq_true rfl) ⟨_, rfl, ⟨by rw [k3, k7]; rfl, k13⟩, by rw [hC1.1.1]; exact nI_pred n, hG1, hC1, hc1⟩)

set_option maxHeartbeats 4000000 in
set_option maxRecDepth 100000 in
theorem c_X4_addHashed {l : Launch} {g : hG} {X : va_W} {S : hS} (hst : l.stackTraces = false) {h bk ca sa : Nat} {ad pa : Nat → Nat} {sc : Nat → Int32} {M : Nat → Nat → Int32} {n nc ns : Nat} (hG : cG S h bk ca sa ad pa) (hC : cC S h ca sa ad pa sc M n nc ns) {mk key name port salt : Int32} : hMetX l yX4_addHashed wsX4_addHashed rm_X4_addHashed g X S [.ref h, .int mk, .int key, .int name, .int port, .int salt] (pGI (fun r S' => ((inR mk 0 2 && okK key && okNP name port && inR salt 0 99) = true ∧ n < 40) ∧ r = nI n ∧ cP S S' h bk ca sa ad pa (scN sc (n + 1)) (aHash (aAdd M n mk key (sc 1)) n name port salt) (n + 1) nc ns)) (pE S (pe2 (inR mk 0 2 && okK key && okNP name port && inR salt 0 99) (decide (n < 40)) xIA xIS)) := by
  refine h_startX (maxL := 6) (ret := (some .int)) (by decide) rfl (Nat.le_of_ble_eq_true rfl) ?_
  intro p e s m args below meth c F hr ht
  have hs99 : inR salt 0 99 = true → ¬ salt = -1 := fun z w => by rw [w] at z; exact absurd z (by decide)
  refine q_iload_n F 1 dX4_addHashed_0 rfl rfl ?_
  refine q_iconst F dX4_addHashed_1 hc_0 ?_
  refine q_iconst F dX4_addHashed_2 hc_2 ?_
  refine q_callSX_v F (c_X4_requireWithin hst) gX4_addHashed_X4_requireWithin rfl hd_X4_requireWithin ⟨Nat.le_of_ble_eq_true rfl, Nat.le_of_ble_eq_true rfl⟩ rfl rfl (Nat.le_of_ble_eq_true rfl) dX4_addHashed_3 ⟨Nat.le_of_ble_eq_true rfl, Nat.le_of_ble_eq_true rfl⟩ (fun E hE => q_out F ht (Nat.le_of_ble_eq_true rfl) (Nat.le_of_ble_eq_true rfl) ⟨rfl, Or.inl ⟨by rw [hE.1]; rfl, hE.2⟩⟩) (fun k3 => ?_)
  refine q_iload_n F 2 dX4_addHashed_6 rfl rfl ?_
  refine q_callSX_v F (c_X4_requireKey hst) gX4_addHashed_X4_requireKey rfl hd_X4_requireKey ⟨Nat.le_of_ble_eq_true rfl, Nat.le_of_ble_eq_true rfl⟩ rfl rfl (Nat.le_of_ble_eq_true rfl) dX4_addHashed_7 ⟨Nat.le_of_ble_eq_true rfl, Nat.le_of_ble_eq_true rfl⟩ (fun E hE => q_out F ht (Nat.le_of_ble_eq_true rfl) (Nat.le_of_ble_eq_true rfl) ⟨rfl, Or.inl ⟨by rw [hE.1, Bool.and_false]; rfl, hE.2⟩⟩) (fun k7 => ?_)
  refine q_iload_n F 3 dX4_addHashed_10 rfl rfl ?_
  refine q_iload F dX4_addHashed_11 rfl ?_
  refine q_callSX_v F (c_X4_requireNameAndPort hst) gX4_addHashed_X4_requireNameAndPort rfl hd_X4_requireNameAndPort ⟨Nat.le_of_ble_eq_true rfl, Nat.le_of_ble_eq_true rfl⟩ rfl rfl (Nat.le_of_ble_eq_true rfl) dX4_addHashed_13 ⟨Nat.le_of_ble_eq_true rfl, Nat.le_of_ble_eq_true rfl⟩ (fun E hE => q_out F ht (Nat.le_of_ble_eq_true rfl) (Nat.le_of_ble_eq_true rfl) ⟨rfl, Or.inl ⟨by rw [hE.1, Bool.and_false]; rfl, hE.2⟩⟩) (fun k13 => ?_)
  refine q_iload F dX4_addHashed_16 rfl ?_
  refine q_iconst F dX4_addHashed_18 hc_0 ?_
  refine q_bipush (v := 99) F dX4_addHashed_19 (by decide) ?_
  refine q_callSX_v F (c_X4_requireWithin hst) gX4_addHashed_X4_requireWithin rfl hd_X4_requireWithin ⟨Nat.le_of_ble_eq_true rfl, Nat.le_of_ble_eq_true rfl⟩ rfl rfl (Nat.le_of_ble_eq_true rfl) dX4_addHashed_21 ⟨Nat.le_of_ble_eq_true rfl, Nat.le_of_ble_eq_true rfl⟩ (fun E hE => q_out F ht (Nat.le_of_ble_eq_true rfl) (Nat.le_of_ble_eq_true rfl) ⟨rfl, Or.inl ⟨by rw [hE.1, Bool.and_false], hE.2⟩⟩) (fun k21 => ?_)
  refine q_aload_n F 0 dX4_addHashed_24 rfl rfl ?_
  refine q_iload_n F 1 dX4_addHashed_25 rfl rfl ?_
  refine q_iload_n F 2 dX4_addHashed_26 rfl rfl ?_
  refine q_callVX_a F (c_X4_appendLine hst hG hC) gX4_addHashed_X4_appendLine rfl hd_X4_appendLine ⟨Nat.le_of_ble_eq_true rfl, Nat.le_of_ble_eq_true rfl⟩ hG.1 rfl rfl rfl (Nat.le_of_ble_eq_true rfl) dX4_addHashed_27 ⟨Nat.le_of_ble_eq_true rfl, Nat.le_of_ble_eq_true rfl⟩ (fun E hE => q_out F ht (Nat.le_of_ble_eq_true rfl) (Nat.le_of_ble_eq_true rfl) ⟨rfl, Or.inr ⟨by rw [k3, k7, k13, k21]; rfl, hE⟩⟩) (fun k27 => ?_)
  have hG1 := cG_appS (a := ad n) (n := n) (mk := mk) (key := key) (day := sc 1) hG
  have hC1 := cC_append (mk := mk) (key := key) (day := sc 1) hG hC k27
  have hc1 := clF_appS S h (ad n) n mk key (sc 1)
  have hln := (hG1.2.2.2.2.1 n k27).2.1
  refine q_iload_n F 3 dX4_addHashed_30 rfl rfl ?_
  refine q_iload F dX4_addHashed_31 rfl ?_
  refine q_iload F dX4_addHashed_33 rfl ?_
  refine q_callV_v F (c_X1_takeHash hln) gX4_addHashed_X1_takeHash rfl hd_X1_takeHash ⟨Nat.le_of_ble_eq_true rfl, Nat.le_of_ble_eq_true rfl⟩ hln rfl rfl rfl (Nat.le_of_ble_eq_true rfl) dX4_addHashed_35 ⟨Nat.le_of_ble_eq_true rfl, Nat.le_of_ble_eq_true rfl⟩ ?_
  refine q_aload_n F 0 dX4_addHashed_38 rfl rfl ?_
  refine qg_X4_47 F ((clF_hashS _ _ _ _ _).1 _ _ ((clF_appS _ _ _ _ _ _ _).1 _ _ hG.1)) dX4_addHashed_39 ?_
  refine q_iconst F dX4_addHashed_42 hc_1 ?_
  refine q_isub F dX4_addHashed_43 ?_
  exact q_x (q_reti F hr rfl dX4_addHashed_44 (Nat.le_of_ble_eq_true rfl) (Nat.le_of_ble_eq_true rfl) ⟨_, rfl, ⟨by rw [k3, k7, k13, k21]; rfl, k27⟩, by rw [hashS_ne (by omega), hC1.1.1]; exact nI_pred n, cG_hashS hG1, cC_hash hG1 hC1 (by omega) (hs99 k21), hc1.trans (clF_hashS _ _ _ _ _)⟩)

set_option maxHeartbeats 4000000 in
set_option maxRecDepth 100000 in
theorem c_X4_addPattern {l : Launch} {g : hG} {X : va_W} {S : hS} (hst : l.stackTraces = false) {h bk ca sa : Nat} {ad pa : Nat → Nat} {sc : Nat → Int32} {M : Nat → Nat → Int32} {n nc ns : Nat} (hG : cG S h bk ca sa ad pa) (hC : cC S h ca sa ad pa sc M n nc ns) {i name places port den : Int32} (hB : isB den) : hMetX l yX4_addPattern wsX4_addPattern rm_X4_addPattern g X S [.ref h, .int i, .int name, .int places, .int port, .int den] (pGI (fun r S' => (inL i n = true ∧ (okNP name port && inR places 0 15) = true ∧ okA M i.toNatClampNeg = true) ∧ r = nI (sz M i.toNatClampNeg + 1) ∧ cP S S' h bk ca sa ad pa sc (aPat M i.toNatClampNeg (sz M i.toNatClampNeg) name places port den) n nc ns)) (pE S (pe3 (inL i n) (okNP name port && inR places 0 15) (okA M i.toNatClampNeg) xIO xIA xIS)) := by
  refine h_startX (maxL := 7) (ret := (some .int)) (by decide) rfl (Nat.le_of_ble_eq_true rfl) ?_
  intro p e s m args below meth c F hr ht
  refine q_aload_n F 0 dX4_addPattern_0 rfl rfl ?_
  refine q_iload_n F 1 dX4_addPattern_1 rfl rfl ?_
  refine q_callVX_a F (c_X4_lineAt hst hG hC) gX4_addPattern_X4_lineAt rfl hd_X4_lineAt ⟨Nat.le_of_ble_eq_true rfl, Nat.le_of_ble_eq_true rfl⟩ hG.1 rfl rfl rfl (Nat.le_of_ble_eq_true rfl) dX4_addPattern_2 ⟨Nat.le_of_ble_eq_true rfl, Nat.le_of_ble_eq_true rfl⟩ (fun E hE => q_out F ht (Nat.le_of_ble_eq_true rfl) (Nat.le_of_ble_eq_true rfl) ⟨rfl, Or.inl hE⟩) (fun k2 => ?_)
  have hn40 := hC.1.2.2
  obtain ⟨j, hj, rfl⟩ := inL_get k2 (by omega)
  have hcl : (nI j).toNatClampNeg = j := nI_clamp (by omega)
  have hi40 : j < 40 := by omega
  obtain ⟨pt, k, hL⟩ := hC.2.1 j hj
  rw [hcl]
  have hsz := sz_of hL
  refine q_astore F dX4_addPattern_5 (by decide) rfl ?_
  refine q_iload_n F 2 dX4_addPattern_7 rfl rfl ?_
  refine q_iload F dX4_addPattern_8 rfl ?_
  refine q_callSX_v F (c_X4_requireNameAndPort hst) gX4_addPattern_X4_requireNameAndPort rfl hd_X4_requireNameAndPort ⟨Nat.le_of_ble_eq_true rfl, Nat.le_of_ble_eq_true rfl⟩ rfl rfl (Nat.le_of_ble_eq_true rfl) dX4_addPattern_10 ⟨Nat.le_of_ble_eq_true rfl, Nat.le_of_ble_eq_true rfl⟩ (fun E hE => q_out F ht (Nat.le_of_ble_eq_true rfl) (Nat.le_of_ble_eq_true rfl) ⟨rfl, Or.inr (Or.inl ⟨k2, by rw [hE.1]; rfl, hE.2⟩)⟩) (fun k10 => ?_)
  refine q_iload_n F 3 dX4_addPattern_13 rfl rfl ?_
  refine q_iconst F dX4_addPattern_14 hc_0 ?_
  refine q_bipush (v := 15) F dX4_addPattern_15 (by decide) ?_
  refine q_callSX_v F (c_X4_requireWithin hst) gX4_addPattern_X4_requireWithin rfl hd_X4_requireWithin ⟨Nat.le_of_ble_eq_true rfl, Nat.le_of_ble_eq_true rfl⟩ rfl rfl (Nat.le_of_ble_eq_true rfl) dX4_addPattern_17 ⟨Nat.le_of_ble_eq_true rfl, Nat.le_of_ble_eq_true rfl⟩ (fun E hE => q_out F ht (Nat.le_of_ble_eq_true rfl) (Nat.le_of_ble_eq_true rfl) ⟨rfl, Or.inr (Or.inl ⟨k2, by rw [hE.1, Bool.and_false], hE.2⟩)⟩) (fun k17 => ?_)
  refine q_aload F dX4_addPattern_20 rfl ?_
  refine q_iload_n F 2 dX4_addPattern_22 rfl rfl ?_
  refine q_iload_n F 3 dX4_addPattern_23 rfl rfl ?_
  refine q_iload F dX4_addPattern_24 rfl ?_
  refine q_iload F dX4_addPattern_26 rfl ?_
  refine q_callVX_gi F (c_X1_takePattern hst (hG.2.2.2.2.1 _ hi40).2 hL.2.1.1 hL.2.1.2.2 hB) gX4_addPattern_X1_takePattern rfl hd_X1_takePattern ⟨Nat.le_of_ble_eq_true rfl, Nat.le_of_ble_eq_true rfl⟩ (hG.2.2.2.2.1 _ hi40).2.1 rfl rfl rfl (Nat.le_of_ble_eq_true rfl) dX4_addPattern_28 ⟨Nat.le_of_ble_eq_true rfl, Nat.le_of_ble_eq_true rfl⟩ (fun E hE => q_out F ht (Nat.le_of_ble_eq_true rfl) (Nat.le_of_ble_eq_true rfl) ⟨rfl, Or.inr (Or.inr ⟨k2, by rw [k10, k17]; rfl, by rw [← lnR_k hL]; exact hE.1, hE.2⟩)⟩) (fun r28 S28 hp28 => ?_)
  obtain ⟨⟨h16, hk4⟩, rfl, q, hq, rfl⟩ := hp28
  exact q_x (q_reti F hr rfl dX4_addPattern_31 (Nat.le_of_ble_eq_true rfl) (Nat.le_of_ble_eq_true rfl) ⟨_, rfl, ⟨k2, by rw [k10, k17]; rfl, by rw [← lnR_k hL, h16, decide_eq_true hk4]; rfl⟩, by rw [hsz], cG_patS _ _ _ _ _ hG hq (hG.2.2.2.2.1 _ hi40).2.2.2.1, by rw [hsz]; exact cC_pat hG hC hj hq hL.2.1.1 hk4, clF_patS _ _ _ _ _ _ _ hq⟩)

set_option maxHeartbeats 4000000 in
set_option maxRecDepth 100000 in
theorem c_X4_letWait {l : Launch} {g : hG} {X : va_W} {S : hS} {h : Nat} {name port key : Int32} (hO4 : isO S h 4) : hMet l yX4_letWait wsX4_letWait rm_X4_letWait g X S [.ref h, .int name, .int port, .int key] (pV (waitS S h name port key)) := by
  refine h_start (maxL := 4) (ret := none) (by decide) rfl (Nat.le_of_ble_eq_true rfl) ?_
  intro p e s m args below meth c F hr hinit
  refine q_aload_n F 0 dX4_letWait_0 rfl rfl ?_
  refine q_iload_n F 1 dX4_letWait_1 rfl rfl ?_
  refine qp_X4_123 F hO4 dX4_letWait_2 ?_
  refine q_aload_n F 0 dX4_letWait_5 rfl rfl ?_
  refine q_iload_n F 2 dX4_letWait_6 rfl rfl ?_
  refine qp_X4_126 F (o_uF hO4) dX4_letWait_7 ?_
  refine q_aload_n F 0 dX4_letWait_10 rfl rfl ?_
  refine q_iload_n F 3 dX4_letWait_11 rfl rfl ?_
  refine qp_X4_31 F (o_uF (o_uF hO4)) dX4_letWait_12 ?_
  exact (q_retv F hr dX4_letWait_15 (Nat.le_of_ble_eq_true rfl) (Nat.le_of_ble_eq_true rfl) ⟨rfl, rfl⟩)

set_option maxHeartbeats 4000000 in
set_option maxRecDepth 100000 in
theorem c_X4_setFirstSight {l : Launch} {g : hG} {X : va_W} {S : hS} (hst : l.stackTraces = false) {h bk ca sa : Nat} {ad pa : Nat → Nat} {sc : Nat → Int32} {M : Nat → Nat → Int32} {n nc ns : Nat} (hG : cG S h bk ca sa ad pa) (hC : cC S h ca sa ad pa sc M n nc ns) {rule b : Int32} (hB : isB b) : hMetX l yX4_setFirstSight wsX4_setFirstSight rm_X4_setFirstSight g X S [.ref h, .int rule, .int b] (pGI (fun r S' => inR rule 0 2 = true ∧ r = sc 2 ∧ cP S S' h bk ca sa ad pa (aSight sc rule b) M n nc ns)) (pE S (pe1 (inR rule 0 2) xIA)) := by
  refine h_startX (maxL := 4) (ret := (some .int)) (by decide) rfl (Nat.le_of_ble_eq_true rfl) ?_
  intro p e s m args below meth c F hr ht
  refine q_iload_n F 1 dX4_setFirstSight_0 rfl rfl ?_
  refine q_iconst F dX4_setFirstSight_1 hc_0 ?_
  refine q_iconst F dX4_setFirstSight_2 hc_2 ?_
  refine q_callSX_v F (c_X4_requireWithin hst) gX4_setFirstSight_X4_requireWithin rfl hd_X4_requireWithin ⟨Nat.le_of_ble_eq_true rfl, Nat.le_of_ble_eq_true rfl⟩ rfl rfl (Nat.le_of_ble_eq_true rfl) dX4_setFirstSight_3 ⟨Nat.le_of_ble_eq_true rfl, Nat.le_of_ble_eq_true rfl⟩ (fun E hE => q_out F ht (Nat.le_of_ble_eq_true rfl) (Nat.le_of_ble_eq_true rfl) ⟨rfl, hE⟩) (fun k3 => ?_)
  refine q_aload_n F 0 dX4_setFirstSight_6 rfl rfl ?_
  refine qg_X4_27 F hG.1 dX4_setFirstSight_7 ?_
  refine q_istore_n F 3 dX4_setFirstSight_10 rfl (by decide) rfl ?_
  refine q_aload_n F 0 dX4_setFirstSight_11 rfl rfl ?_
  refine q_iload_n F 1 dX4_setFirstSight_12 rfl rfl ?_
  refine qp_X4_27 F hG.1 dX4_setFirstSight_13 ?_
  refine q_aload_n F 0 dX4_setFirstSight_16 rfl rfl ?_
  refine q_iload_n F 2 dX4_setFirstSight_17 rfl rfl ?_
  refine qp_X4_95 F hB (o_uF hG.1) dX4_setFirstSight_18 ?_
  refine q_iload_n F 3 dX4_setFirstSight_21 rfl rfl ?_
  exact q_x (q_reti F hr rfl dX4_setFirstSight_22 (Nat.le_of_ble_eq_true rfl) (Nat.le_of_ble_eq_true rfl) ⟨_, rfl, k3, hC.2.2.2.2.1.2.1, cC_sight hG hC hB⟩)

set_option maxHeartbeats 4000000 in
set_option maxRecDepth 100000 in
theorem c_X4_pass {l : Launch} {g : hG} {X : va_W} {S : hS} (hst : l.stackTraces = false) {h bk ca sa : Nat} {ad pa : Nat → Nat} {sc : Nat → Int32} {M : Nat → Nat → Int32} {n nc ns : Nat} (hG : cG S h bk ca sa ad pa) (hC : cC S h ca sa ad pa sc M n nc ns) {days : Int32} : hMetX l yX4_pass wsX4_pass rm_X4_pass g X S [.ref h, .int days] (pGI (fun r S' => (inR days 1 1000 = true ∧ sc 1 + days ≤ 5000) ∧ r = sc 1 + days ∧ cP S S' h bk ca sa ad pa (va_up sc 1 (sc 1 + days)) M n nc ns)) (pE S (pe2 (inR days 1 1000) (decide (sc 1 + days ≤ 5000)) xIA xIS)) := by
  refine h_startX (maxL := 2) (ret := (some .int)) (by decide) rfl (Nat.le_of_ble_eq_true rfl) ?_
  intro p e s m args below meth c F hr ht
  have hday : sF S 46 h = sc 1 := hC.2.2.2.2.1.1
  refine q_iload_n F 1 dX4_pass_0 rfl rfl ?_
  refine q_iconst F dX4_pass_1 hc_1 ?_
  refine q_sipush (v := 1000) F dX4_pass_2 (by decide) ?_
  refine q_callSX_v F (c_X4_requireWithin hst) gX4_pass_X4_requireWithin rfl hd_X4_requireWithin ⟨Nat.le_of_ble_eq_true rfl, Nat.le_of_ble_eq_true rfl⟩ rfl rfl (Nat.le_of_ble_eq_true rfl) dX4_pass_5 ⟨Nat.le_of_ble_eq_true rfl, Nat.le_of_ble_eq_true rfl⟩ (fun E hE => q_out F ht (Nat.le_of_ble_eq_true rfl) (Nat.le_of_ble_eq_true rfl) ⟨rfl, Or.inl hE⟩) (fun k5 => ?_)
  refine q_aload_n F 0 dX4_pass_8 rfl rfl ?_
  refine qg_X4_146 F hG.1 dX4_pass_9 ?_
  refine q_iload_n F 1 dX4_pass_12 rfl rfl ?_
  refine q_iadd F dX4_pass_13 ?_
  refine q_sipush (v := 5000) F dX4_pass_14 (by decide) ?_
  refine q_icmp_le F 30 dX4_pass_17 rfl (fun c17 => ?_) (fun c17 => ?_)
  · refine q_aload_n F 0 dX4_pass_30 rfl rfl ?_
    refine q_dup F dX4_pass_31 rfl ?_
    refine qg_X4_146 F hG.1 dX4_pass_32 ?_
    refine q_iload_n F 1 dX4_pass_35 rfl rfl ?_
    refine q_iadd F dX4_pass_36 ?_
    refine q_top (v' := .int (sc 1 + days)) ?_ (congrArg Value.int (by rw [hday]))
    refine qp_X4_146 F hG.1 dX4_pass_37 ?_
    refine q_aload_n F 0 dX4_pass_40 rfl rfl ?_
    refine qg_X4_146 F (o_uF hG.1) dX4_pass_41 ?_
    exact q_x (q_reti F hr rfl dX4_pass_44 (Nat.le_of_ble_eq_true rfl) (Nat.le_of_ble_eq_true rfl) ⟨_, rfl, ⟨k5, by rw [← hday]; exact c17⟩, by rw [sF_uF, if_pos ⟨rfl, rfl⟩], cC_day hG hC⟩)
  exact qt_X4_149 F hst ht dX4_pass_20 dX4_pass_23 dX4_pass_24 dX4_pass_26 dX4_pass_29 ⟨Nat.le_of_ble_eq_true rfl, Nat.le_of_ble_eq_true rfl⟩ ⟨Nat.le_of_ble_eq_true rfl, Nat.le_of_ble_eq_true rfl⟩ (Nat.le_of_ble_eq_true rfl) (Nat.le_of_ble_eq_true rfl) ⟨rfl, Or.inr ⟨k5, decide_eq_false (by rw [← hday]; exact c17), rfl⟩⟩

set_option maxHeartbeats 4000000 in
set_option maxRecDepth 100000 in
theorem c_X4_confirm {l : Launch} {g : hG} {X : va_W} {S : hS} (hst : l.stackTraces = false) {h bk ca sa : Nat} {ad pa : Nat → Nat} {sc : Nat → Int32} {M : Nat → Nat → Int32} {n nc ns : Nat} (hG : cG S h bk ca sa ad pa) (hC : cC S h ca sa ad pa sc M n nc ns) (hV : ¬ sc 29 = -1 → okN (sc 30) = true ∧ okK (sc 29) = true) : hMetX l yX4_confirm wsX4_confirm rm_X4_confirm g X S [.ref h] (pGI (fun r S' => (decide (¬ sc 29 = -1) && decide (n < 40)) = true ∧ r = nI n ∧ cP S S' h bk ca sa ad pa (va_up (scN sc (n + 1)) 29 (-1)) (aTr sc M n (sc 30) (sc 31) (sc 29)) (n + 1) nc ns)) (pE S (pe1 (decide (¬ sc 29 = -1) && decide (n < 40)) xIS)) := by
  refine h_startX (maxL := 1) (ret := (some .int)) (by decide) rfl (Nat.le_of_ble_eq_true rfl) ?_
  intro p e s m args below meth c F hr ht
  have h51 : sF S 51 h = sc 29 := hC.2.2.2.2.2.1.1
  refine q_aload_n F 0 dX4_confirm_0 rfl rfl ?_
  refine qg_X4_31 F hG.1 dX4_confirm_1 ?_
  refine q_iconst F dX4_confirm_4 hc_m1 ?_
  refine q_icmp_ne F 18 dX4_confirm_5 rfl (fun c5 => ?_) (fun c5 => ?_)
  · have hw : ¬ sc 29 = -1 := by rw [← h51]; exact c5
    have hv := hV hw
    have h49 := (hC.2.2.2.2.2.1.2 hw).1
    have h50 := (hC.2.2.2.2.2.1.2 hw).2
    refine q_aload_n F 0 dX4_confirm_18 rfl rfl ?_
    refine q_aload_n F 0 dX4_confirm_19 rfl rfl ?_
    refine qg_X4_123 F hG.1 dX4_confirm_20 ?_
    refine q_top (v' := .int (sc 30)) ?_ (congrArg Value.int h49)
    refine q_aload_n F 0 dX4_confirm_23 rfl rfl ?_
    refine qg_X4_126 F hG.1 dX4_confirm_24 ?_
    refine q_top (v' := .int (sc 31)) ?_ (congrArg Value.int h50)
    refine q_aload_n F 0 dX4_confirm_27 rfl rfl ?_
    refine qg_X4_31 F hG.1 dX4_confirm_28 ?_
    refine q_top (v' := .int (sc 29)) ?_ (congrArg Value.int h51)
    refine q_callVX_gv F (c_X4_appendSighted hst hG hC hv.1 hv.2) gX4_confirm_X4_appendSighted rfl hd_X4_appendSighted ⟨Nat.le_of_ble_eq_true rfl, Nat.le_of_ble_eq_true rfl⟩ hG.1 rfl rfl rfl (Nat.le_of_ble_eq_true rfl) dX4_confirm_31 ⟨Nat.le_of_ble_eq_true rfl, Nat.le_of_ble_eq_true rfl⟩ (fun E hE => q_out F ht (Nat.le_of_ble_eq_true rfl) (Nat.le_of_ble_eq_true rfl) ⟨rfl, by rw [hE.1, Bool.and_false], hE.2⟩) (fun S1 hp31 => ?_)
    obtain ⟨k31, hG1, hC1, hc1⟩ := hp31
    have hO4 := hG1.1
    refine q_aload_n F 0 dX4_confirm_34 rfl rfl ?_
    refine q_iconst F dX4_confirm_35 hc_m1 ?_
    refine qp_X4_31 F hG1.1 dX4_confirm_36 ?_
    refine q_aload_n F 0 dX4_confirm_39 rfl rfl ?_
    refine qg_X4_47 F (o_uF hG1.1) dX4_confirm_40 ?_
    refine q_iconst F dX4_confirm_43 hc_1 ?_
    refine q_isub F dX4_confirm_44 ?_
    exact q_x (q_reti F hr rfl dX4_confirm_45 (Nat.le_of_ble_eq_true rfl) (Nat.le_of_ble_eq_true rfl) ⟨_, rfl, by rw [decide_eq_true hw, decide_eq_true k31]; rfl, by rw [sF_uF, if_neg (by omega), hC1.1.1]; exact nI_pred n, cG_uF _ _ _ hG1, cC_none1 hG1 hC1, hc1.trans (clF_uF _ _ _ (by decide))⟩)
  exact qt_X4_121 F hst ht dX4_confirm_8 dX4_confirm_11 dX4_confirm_12 dX4_confirm_14 dX4_confirm_17 ⟨Nat.le_of_ble_eq_true rfl, Nat.le_of_ble_eq_true rfl⟩ ⟨Nat.le_of_ble_eq_true rfl, Nat.le_of_ble_eq_true rfl⟩ (Nat.le_of_ble_eq_true rfl) (Nat.le_of_ble_eq_true rfl) ⟨rfl, by rw [h51] at c5; rw [c5]; rfl, rfl⟩

set_option maxHeartbeats 4000000 in
set_option maxRecDepth 100000 in
theorem c_X4_certify {l : Launch} {g : hG} {X : va_W} {S : hS} (hst : l.stackTraces = false) {h bk ca sa : Nat} {ad pa : Nat → Nat} {sc : Nat → Int32} {M : Nat → Nat → Int32} {n nc ns : Nat} (hG : cG S h bk ca sa ad pa) (hC : cC S h ca sa ad pa sc M n nc ns) {au key name places serial first last : Int32} : hMetX l yX4_certify wsX4_certify rm_X4_certify g X S [.ref h, .int au, .int key, .int name, .int places, .int serial, .int first, .int last] (pGI (fun r S' => ((okK au && okK key && okN name && inR places 0 15 && inR serial 0 999 && inR first 0 5000 && inR last first 5000) = true ∧ nc < 20) ∧ r = nI nc ∧ cP S S' h bk ca sa ad pa (va_up sc 17 (nI (nc + 1))) (aCert M nc au key name places serial first last) n (nc + 1) ns)) (pE S (pe2 (okK au && okK key && okN name && inR places 0 15 && inR serial 0 999 && inR first 0 5000 && inR last first 5000) (decide (nc < 20)) xIA xIS)) := by
  refine h_startX (maxL := 8) (ret := (some .int)) (by decide) rfl (Nat.le_of_ble_eq_true rfl) ?_
  intro p e s m args below meth c F hr ht
  have hn20 := hC.2.2.1.2.2
  have hnc : sF S 43 h = nI nc := hC.2.2.1.1
  refine q_iload_n F 1 dX4_certify_0 rfl rfl ?_
  refine q_callSX_v F (c_X4_requireKey hst) gX4_certify_X4_requireKey rfl hd_X4_requireKey ⟨Nat.le_of_ble_eq_true rfl, Nat.le_of_ble_eq_true rfl⟩ rfl rfl (Nat.le_of_ble_eq_true rfl) dX4_certify_1 ⟨Nat.le_of_ble_eq_true rfl, Nat.le_of_ble_eq_true rfl⟩ (fun E hE => q_out F ht (Nat.le_of_ble_eq_true rfl) (Nat.le_of_ble_eq_true rfl) ⟨rfl, Or.inl ⟨by simp [okN, hE.1], hE.2⟩⟩) (fun k1 => ?_)
  refine q_iload_n F 2 dX4_certify_4 rfl rfl ?_
  refine q_callSX_v F (c_X4_requireKey hst) gX4_certify_X4_requireKey rfl hd_X4_requireKey ⟨Nat.le_of_ble_eq_true rfl, Nat.le_of_ble_eq_true rfl⟩ rfl rfl (Nat.le_of_ble_eq_true rfl) dX4_certify_5 ⟨Nat.le_of_ble_eq_true rfl, Nat.le_of_ble_eq_true rfl⟩ (fun E hE => q_out F ht (Nat.le_of_ble_eq_true rfl) (Nat.le_of_ble_eq_true rfl) ⟨rfl, Or.inl ⟨by simp [okN, hE.1], hE.2⟩⟩) (fun k5 => ?_)
  refine q_iload_n F 3 dX4_certify_8 rfl rfl ?_
  refine q_iconst F dX4_certify_9 hc_0 ?_
  refine q_sipush (v := 9999) F dX4_certify_10 (by decide) ?_
  refine q_callSX_v F (c_X4_requireWithin hst) gX4_certify_X4_requireWithin rfl hd_X4_requireWithin ⟨Nat.le_of_ble_eq_true rfl, Nat.le_of_ble_eq_true rfl⟩ rfl rfl (Nat.le_of_ble_eq_true rfl) dX4_certify_13 ⟨Nat.le_of_ble_eq_true rfl, Nat.le_of_ble_eq_true rfl⟩ (fun E hE => q_out F ht (Nat.le_of_ble_eq_true rfl) (Nat.le_of_ble_eq_true rfl) ⟨rfl, Or.inl ⟨by simp [okN, hE.1], hE.2⟩⟩) (fun k13 => ?_)
  refine q_iload F dX4_certify_16 rfl ?_
  refine q_iconst F dX4_certify_18 hc_0 ?_
  refine q_bipush (v := 15) F dX4_certify_19 (by decide) ?_
  refine q_callSX_v F (c_X4_requireWithin hst) gX4_certify_X4_requireWithin rfl hd_X4_requireWithin ⟨Nat.le_of_ble_eq_true rfl, Nat.le_of_ble_eq_true rfl⟩ rfl rfl (Nat.le_of_ble_eq_true rfl) dX4_certify_21 ⟨Nat.le_of_ble_eq_true rfl, Nat.le_of_ble_eq_true rfl⟩ (fun E hE => q_out F ht (Nat.le_of_ble_eq_true rfl) (Nat.le_of_ble_eq_true rfl) ⟨rfl, Or.inl ⟨by simp [okN, hE.1], hE.2⟩⟩) (fun k21 => ?_)
  refine q_iload F dX4_certify_24 rfl ?_
  refine q_iconst F dX4_certify_26 hc_0 ?_
  refine q_sipush (v := 999) F dX4_certify_27 (by decide) ?_
  refine q_callSX_v F (c_X4_requireWithin hst) gX4_certify_X4_requireWithin rfl hd_X4_requireWithin ⟨Nat.le_of_ble_eq_true rfl, Nat.le_of_ble_eq_true rfl⟩ rfl rfl (Nat.le_of_ble_eq_true rfl) dX4_certify_30 ⟨Nat.le_of_ble_eq_true rfl, Nat.le_of_ble_eq_true rfl⟩ (fun E hE => q_out F ht (Nat.le_of_ble_eq_true rfl) (Nat.le_of_ble_eq_true rfl) ⟨rfl, Or.inl ⟨by simp [okN, hE.1], hE.2⟩⟩) (fun k30 => ?_)
  refine q_iload F dX4_certify_33 rfl ?_
  refine q_iconst F dX4_certify_35 hc_0 ?_
  refine q_sipush (v := 5000) F dX4_certify_36 (by decide) ?_
  refine q_callSX_v F (c_X4_requireWithin hst) gX4_certify_X4_requireWithin rfl hd_X4_requireWithin ⟨Nat.le_of_ble_eq_true rfl, Nat.le_of_ble_eq_true rfl⟩ rfl rfl (Nat.le_of_ble_eq_true rfl) dX4_certify_39 ⟨Nat.le_of_ble_eq_true rfl, Nat.le_of_ble_eq_true rfl⟩ (fun E hE => q_out F ht (Nat.le_of_ble_eq_true rfl) (Nat.le_of_ble_eq_true rfl) ⟨rfl, Or.inl ⟨by simp [okN, hE.1], hE.2⟩⟩) (fun k39 => ?_)
  refine q_iload F dX4_certify_42 rfl ?_
  refine q_iload F dX4_certify_44 rfl ?_
  refine q_sipush (v := 5000) F dX4_certify_46 (by decide) ?_
  refine q_callSX_v F (c_X4_requireWithin hst) gX4_certify_X4_requireWithin rfl hd_X4_requireWithin ⟨Nat.le_of_ble_eq_true rfl, Nat.le_of_ble_eq_true rfl⟩ rfl rfl (Nat.le_of_ble_eq_true rfl) dX4_certify_49 ⟨Nat.le_of_ble_eq_true rfl, Nat.le_of_ble_eq_true rfl⟩ (fun E hE => q_out F ht (Nat.le_of_ble_eq_true rfl) (Nat.le_of_ble_eq_true rfl) ⟨rfl, Or.inl ⟨by simp [okN, hE.1], hE.2⟩⟩) (fun k49 => ?_)
  refine q_aload_n F 0 dX4_certify_52 rfl rfl ?_
  refine qg_X4_71 F hG.1 dX4_certify_53 ?_
  refine q_bipush (v := 20) F dX4_certify_56 (by decide) ?_
  refine q_icmp_lt F 71 dX4_certify_58 rfl (fun c58 => ?_) (fun c58 => ?_)
  · have hlt : nc < 20 := lt_of_nI (N := 20) hnc (by omega) (by omega) c58
    refine q_aload_n F 0 dX4_certify_71 rfl rfl ?_
    refine qg_X4_17 F hG.2.2.1.1 hG.1 dX4_certify_72 ?_
    refine q_aload_n F 0 dX4_certify_75 rfl rfl ?_
    refine qg_X4_71 F hG.1 dX4_certify_76 ?_
    refine qn_X4_15 F ⟨Nat.le_of_ble_eq_true rfl, Nat.le_of_ble_eq_true rfl⟩ dX4_certify_79 (fun q79 hqq79 => ?_)
    refine q_dup F dX4_certify_82 rfl ?_
    refine q_iload_n F 1 dX4_certify_83 rfl rfl ?_
    refine q_iload_n F 2 dX4_certify_84 rfl rfl ?_
    refine q_iload_n F 3 dX4_certify_85 rfl rfl ?_
    refine q_iload F dX4_certify_86 rfl ?_
    refine q_iload F dX4_certify_88 rfl ?_
    refine q_iload F dX4_certify_90 rfl ?_
    refine q_iload F dX4_certify_92 rfl ?_
    refine q_callI_v F (c_X0_init (isO_nO S 0 q79)) gX4_certify_X0_init rfl hd_X0_init ⟨Nat.le_of_ble_eq_true rfl, Nat.le_of_ble_eq_true rfl⟩ (List.mem_of_getElem? (i := 202) (by decide +kernel)) (List.mem_of_getElem? (i := 203) (by decide +kernel)) (List.mem_of_getElem? (i := 204) (by decide +kernel)) rfl rfl rfl (Nat.le_of_ble_eq_true rfl) dX4_certify_94 ⟨Nat.le_of_ble_eq_true rfl, Nat.le_of_ble_eq_true rfl⟩ ?_
    refine q_aast_c F (o_uF (o_uF (o_uF (o_uF (o_uF (o_uF (o_uF (isO_nO' hG.2.2.1.2.1 hqq79)))))))) (n_uF (n_uF (n_uF (n_uF (n_uF (n_uF (n_uF (n_nO hG.2.2.1.2.2)))))))) hnc hlt (by decide) (o_uF (o_uF (o_uF (o_uF (o_uF (o_uF (o_uF (isO_nO _ 0 q79)))))))) dX4_certify_97 ?_
    refine q_aload_n F 0 dX4_certify_98 rfl rfl ?_
    refine q_dup F dX4_certify_99 rfl ?_
    refine qg_X4_71 F (o_uB (o_uF (o_uF (o_uF (o_uF (o_uF (o_uF (o_uF (isO_nO' hG.1 hqq79))))))))) dX4_certify_100 ?_
    refine q_iconst F dX4_certify_103 hc_1 ?_
    refine q_iadd F dX4_certify_104 ?_
    refine q_top (v' := .int (nI (nc + 1))) ?_ (congrArg Value.int (certT_inc (ca := ca) (q := q79) (nc := nc) hG.1 hqq79 hnc))
    refine qp_X4_71 F (o_uB (o_uF (o_uF (o_uF (o_uF (o_uF (o_uF (o_uF (isO_nO' hG.1 hqq79))))))))) dX4_certify_105 ?_
    refine q_pool (S' := certS S h ca q79 nc au key name places serial first last) ?_ rfl
    obtain ⟨hG1, hC1, hc1⟩ := cC_cert (au := au) (key := key) (name := name) (places := places) (serial := serial) (first := first) (last := last) hG hC hqq79 hlt
    refine q_aload_n F 0 dX4_certify_108 rfl rfl ?_
    refine qg_X4_71 F hG1.1 dX4_certify_109 ?_
    refine q_iconst F dX4_certify_112 hc_1 ?_
    refine q_isub F dX4_certify_113 ?_
    exact q_x (q_reti F hr rfl dX4_certify_114 (Nat.le_of_ble_eq_true rfl) (Nat.le_of_ble_eq_true rfl) ⟨_, rfl, ⟨by simp [okN, k1, k5, k13, k21, k30, k39, k49], hlt⟩, by rw [hC1.2.2.1.1]; exact nI_pred nc, hG1, hC1, hc1⟩)
  exact qt_X4_76 F hst ht dX4_certify_61 dX4_certify_64 dX4_certify_65 dX4_certify_67 dX4_certify_70 ⟨Nat.le_of_ble_eq_true rfl, Nat.le_of_ble_eq_true rfl⟩ ⟨Nat.le_of_ble_eq_true rfl, Nat.le_of_ble_eq_true rfl⟩ (Nat.le_of_ble_eq_true rfl) (Nat.le_of_ble_eq_true rfl) ⟨rfl, Or.inr ⟨by simp [okN, k1, k5, k13, k21, k30, k39, k49], decide_eq_false (nlt_of_nI (N := 20) hnc (by omega) (by omega) c58), rfl⟩⟩

set_option maxHeartbeats 4000000 in
set_option maxRecDepth 100000 in
theorem c_X4_revokeSpan {l : Launch} {g : hG} {X : va_W} {S : hS} (hst : l.stackTraces = false) {h bk ca sa : Nat} {ad pa : Nat → Nat} {sc : Nat → Int32} {M : Nat → Nat → Int32} {n nc ns : Nat} (hG : cG S h bk ca sa ad pa) (hC : cC S h ca sa ad pa sc M n nc ns) {au fr to : Int32} : hMetX l yX4_revokeSpan wsX4_revokeSpan rm_X4_revokeSpan g X S [.ref h, .int au, .int fr, .int to] (pGI (fun r S' => ((okK au && inR fr 0 999 && inR to fr 999) = true ∧ ns < 20) ∧ r = cntN (rv (aSpan M ns au fr to) (ns + 1)) nc ∧ cP S S' h bk ca sa ad pa (va_up sc 25 (nI (ns + 1))) (aSpan M ns au fr to) n nc (ns + 1))) (pE S (pe2 (okK au && inR fr 0 999 && inR to fr 999) (decide (ns < 20)) xIA xIS)) := by
  refine h_startX (maxL := 4) (ret := (some .int)) (by decide) rfl (Nat.le_of_ble_eq_true rfl) ?_
  intro p e s m args below meth c F hr ht
  have hn20 := hC.2.2.2.1.2.2
  have hns : sF S 45 h = nI ns := hC.2.2.2.1.1
  refine q_iload_n F 1 dX4_revokeSpan_0 rfl rfl ?_
  refine q_callSX_v F (c_X4_requireKey hst) gX4_revokeSpan_X4_requireKey rfl hd_X4_requireKey ⟨Nat.le_of_ble_eq_true rfl, Nat.le_of_ble_eq_true rfl⟩ rfl rfl (Nat.le_of_ble_eq_true rfl) dX4_revokeSpan_1 ⟨Nat.le_of_ble_eq_true rfl, Nat.le_of_ble_eq_true rfl⟩ (fun E hE => q_out F ht (Nat.le_of_ble_eq_true rfl) (Nat.le_of_ble_eq_true rfl) ⟨rfl, Or.inl ⟨by simp [hE.1], hE.2⟩⟩) (fun k1 => ?_)
  refine q_iload_n F 2 dX4_revokeSpan_4 rfl rfl ?_
  refine q_iconst F dX4_revokeSpan_5 hc_0 ?_
  refine q_sipush (v := 999) F dX4_revokeSpan_6 (by decide) ?_
  refine q_callSX_v F (c_X4_requireWithin hst) gX4_revokeSpan_X4_requireWithin rfl hd_X4_requireWithin ⟨Nat.le_of_ble_eq_true rfl, Nat.le_of_ble_eq_true rfl⟩ rfl rfl (Nat.le_of_ble_eq_true rfl) dX4_revokeSpan_9 ⟨Nat.le_of_ble_eq_true rfl, Nat.le_of_ble_eq_true rfl⟩ (fun E hE => q_out F ht (Nat.le_of_ble_eq_true rfl) (Nat.le_of_ble_eq_true rfl) ⟨rfl, Or.inl ⟨by simp [hE.1], hE.2⟩⟩) (fun k9 => ?_)
  refine q_iload_n F 3 dX4_revokeSpan_12 rfl rfl ?_
  refine q_iload_n F 2 dX4_revokeSpan_13 rfl rfl ?_
  refine q_sipush (v := 999) F dX4_revokeSpan_14 (by decide) ?_
  refine q_callSX_v F (c_X4_requireWithin hst) gX4_revokeSpan_X4_requireWithin rfl hd_X4_requireWithin ⟨Nat.le_of_ble_eq_true rfl, Nat.le_of_ble_eq_true rfl⟩ rfl rfl (Nat.le_of_ble_eq_true rfl) dX4_revokeSpan_17 ⟨Nat.le_of_ble_eq_true rfl, Nat.le_of_ble_eq_true rfl⟩ (fun E hE => q_out F ht (Nat.le_of_ble_eq_true rfl) (Nat.le_of_ble_eq_true rfl) ⟨rfl, Or.inl ⟨by simp [hE.1], hE.2⟩⟩) (fun k17 => ?_)
  refine q_aload_n F 0 dX4_revokeSpan_20 rfl rfl ?_
  refine qg_X4_84 F hG.1 dX4_revokeSpan_21 ?_
  refine q_bipush (v := 20) F dX4_revokeSpan_24 (by decide) ?_
  refine q_icmp_lt F 39 dX4_revokeSpan_26 rfl (fun c26 => ?_) (fun c26 => ?_)
  · have hlt : ns < 20 := lt_of_nI (N := 20) hns (by omega) (by omega) c26
    refine q_aload_n F 0 dX4_revokeSpan_39 rfl rfl ?_
    refine qg_X4_23 F hG.2.2.2.1.1 hG.1 dX4_revokeSpan_40 ?_
    refine q_aload_n F 0 dX4_revokeSpan_43 rfl rfl ?_
    refine qg_X4_84 F hG.1 dX4_revokeSpan_44 ?_
    refine qn_X4_21 F ⟨Nat.le_of_ble_eq_true rfl, Nat.le_of_ble_eq_true rfl⟩ dX4_revokeSpan_47 (fun q47 hqq47 => ?_)
    refine q_dup F dX4_revokeSpan_50 rfl ?_
    refine q_iload_n F 1 dX4_revokeSpan_51 rfl rfl ?_
    refine q_iload_n F 2 dX4_revokeSpan_52 rfl rfl ?_
    refine q_iload_n F 3 dX4_revokeSpan_53 rfl rfl ?_
    refine q_callI_v F (c_X3_init (isO_nO S 3 q47)) gX4_revokeSpan_X3_init rfl hd_X3_init ⟨Nat.le_of_ble_eq_true rfl, Nat.le_of_ble_eq_true rfl⟩ (List.mem_of_getElem? (i := 176) (by decide +kernel)) (List.mem_of_getElem? (i := 177) (by decide +kernel)) (List.mem_of_getElem? (i := 178) (by decide +kernel)) rfl rfl rfl (Nat.le_of_ble_eq_true rfl) dX4_revokeSpan_54 ⟨Nat.le_of_ble_eq_true rfl, Nat.le_of_ble_eq_true rfl⟩ ?_
    refine q_aast_s F (o_uF (o_uF (o_uF (isO_nO' hG.2.2.2.1.2.1 hqq47)))) (n_uF (n_uF (n_uF (n_nO hG.2.2.2.1.2.2)))) hns hlt (by decide) (o_uF (o_uF (o_uF (isO_nO _ 3 q47)))) dX4_revokeSpan_57 ?_
    refine q_aload_n F 0 dX4_revokeSpan_58 rfl rfl ?_
    refine q_dup F dX4_revokeSpan_59 rfl ?_
    refine qg_X4_84 F (o_uB (o_uF (o_uF (o_uF (isO_nO' hG.1 hqq47))))) dX4_revokeSpan_60 ?_
    refine q_iconst F dX4_revokeSpan_63 hc_1 ?_
    refine q_iadd F dX4_revokeSpan_64 ?_
    refine q_top (v' := .int (nI (ns + 1))) ?_ (congrArg Value.int (spanT_inc (sa := sa) (q := q47) (ns := ns) hG.1 hqq47 hns))
    refine qp_X4_84 F (o_uB (o_uF (o_uF (o_uF (isO_nO' hG.1 hqq47))))) dX4_revokeSpan_65 ?_
    refine q_pool (S' := spanS S h sa q47 ns au fr to) ?_ rfl
    obtain ⟨hG1, hC1, hc1⟩ := cC_span (au := au) (fr := fr) (to := to) hG hC hqq47 hlt
    refine q_aload_n F 0 dX4_revokeSpan_68 rfl rfl ?_
    refine q_callV_i F (c_X4_countRevokedCertificates hG1 hC1) gX4_revokeSpan_X4_countRevokedCertificates rfl hd_X4_countRevokedCertificates ⟨Nat.le_of_ble_eq_true rfl, Nat.le_of_ble_eq_true rfl⟩ hG1.1 rfl rfl rfl (Nat.le_of_ble_eq_true rfl) dX4_revokeSpan_69 ⟨Nat.le_of_ble_eq_true rfl, Nat.le_of_ble_eq_true rfl⟩ ?_
    exact q_x (q_reti F hr rfl dX4_revokeSpan_72 (Nat.le_of_ble_eq_true rfl) (Nat.le_of_ble_eq_true rfl) ⟨_, rfl, ⟨by simp [k1, k9, k17], hlt⟩, rfl, hG1, hC1, hc1⟩)
  exact qt_X4_87 F hst ht dX4_revokeSpan_29 dX4_revokeSpan_32 dX4_revokeSpan_33 dX4_revokeSpan_35 dX4_revokeSpan_38 ⟨Nat.le_of_ble_eq_true rfl, Nat.le_of_ble_eq_true rfl⟩ ⟨Nat.le_of_ble_eq_true rfl, Nat.le_of_ble_eq_true rfl⟩ (Nat.le_of_ble_eq_true rfl) (Nat.le_of_ble_eq_true rfl) ⟨rfl, Or.inr ⟨by simp [k1, k9, k17], decide_eq_false (nlt_of_nI (N := 20) hns (by omega) (by omega) c26), rfl⟩⟩


