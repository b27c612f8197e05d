set_option maxHeartbeats 4000000 in
set_option maxRecDepth 100000 in
theorem c_X1_takeMatching {l : Launch} {g : hG} {X : va_W} {S : hS} {a pa b pb n : Nat} (hg : lnG S a pa) (hgb : lnG S b pb) (hne : pa ≠ pb) (hab : a ≠ b) (h15 : sF S 15 b = nI n) (hn : n ≤ 4) (hp : ∀ k, k < n → ∃ q, sB S pb k = some q ∧ isO S q 2) (hb16 : isB (sF S 16 b)) : hMet l yX1_takeMatching wsX1_takeMatching rm_X1_takeMatching g X S [.ref a, .ref b] (pGV (fun S' => mchR S S' a pa b pb n)) := by
  refine h_start (maxL := 3) (ret := none) (by decide) rfl (Nat.le_of_ble_eq_true rfl) ?_
  intro p e s m args below meth c F hr hinit
  refine q_aload_n F 0 dX1_takeMatching_0 rfl rfl ?_
  refine q_aload_n F 1 dX1_takeMatching_1 rfl rfl ?_
  refine qg_X1_30 F hgb.1 dX1_takeMatching_2 ?_
  refine q_top (v' := .int (nI n)) ?_ (congrArg Value.int h15)
  refine qp_X1_30 F hg.1 dX1_takeMatching_5 ?_
  refine q_iconst F dX1_takeMatching_8 hc_0 ?_
  refine q_istore_n F 2 dX1_takeMatching_9 rfl (by decide) rfl ?_
  have L : ∀ (r j : Nat) (S1 : hS), j + r = n → mch0 S S1 a pa pb n j → V p l e rm_X1_takeMatching s m args below meth c 3 g X (MQ below (hQ g X (pGV (fun S' => mchR S S' a pa b pb n))) args s rm_X1_takeMatching.cells rm_X1_takeMatching.slots (hA g)) S1 0 0 [(0, .ref a), (1, .ref b), (2, .int (nI j))] 10 [] := by
    intro r
    induction r with
    | zero =>
      intro j S1 hjr hD
      have hjn : j = n := by omega
      subst hjn
      have hs1 : shp S S1 := hD.1
      have hg := shp_lnG hs1 hg
      have hgb := shp_lnG hs1 hgb
      have h15a : sF S1 15 a = nI j := by rw [hD.2.1, if_pos ⟨rfl, rfl⟩]
      have hB16 : isB (sF S1 16 b) := by rw [hD.2.1, if_neg (by omega)]; exact hb16
      refine q_iload_n F 2 dX1_takeMatching_10 rfl rfl ?_
      refine q_aload_n F 0 dX1_takeMatching_11 rfl rfl ?_
      refine qg_X1_30 F hg.1 dX1_takeMatching_12 ?_
      refine q_icmp_ge F 36 dX1_takeMatching_15 rfl (fun c15 => ?_) (fun c15 => ?_)
      · refine q_aload_n F 0 dX1_takeMatching_36 rfl rfl ?_
        refine q_aload_n F 1 dX1_takeMatching_37 rfl rfl ?_
        refine qg_X1_33 F hgb.1 dX1_takeMatching_38 ?_
        refine qp_X1_33 F hB16 hg.1 dX1_takeMatching_41 ?_
        refine q_aload_n F 0 dX1_takeMatching_44 rfl rfl ?_
        refine q_aload_n F 1 dX1_takeMatching_45 rfl rfl ?_
        refine qg_X1_51 F (o_uF hgb.1) dX1_takeMatching_46 ?_
        refine qp_X1_51 F (o_uF hg.1) dX1_takeMatching_49 ?_
        refine q_aload_n F 0 dX1_takeMatching_52 rfl rfl ?_
        refine q_aload_n F 1 dX1_takeMatching_53 rfl rfl ?_
        refine qg_X1_54 F (o_uF (o_uF hgb.1)) dX1_takeMatching_54 ?_
        refine qp_X1_54 F (o_uF (o_uF hg.1)) dX1_takeMatching_57 ?_
        refine q_aload_n F 0 dX1_takeMatching_60 rfl rfl ?_
        refine q_aload_n F 1 dX1_takeMatching_61 rfl rfl ?_
        refine qg_X1_57 F (o_uF (o_uF (o_uF hgb.1))) dX1_takeMatching_62 ?_
        refine qp_X1_57 F (o_uF (o_uF (o_uF hg.1))) dX1_takeMatching_65 ?_
        exact (q_retv F hr dX1_takeMatching_68 (Nat.le_of_ble_eq_true rfl) (Nat.le_of_ble_eq_true rfl) ⟨rfl, mch0_e hD hab h15⟩)
      exact absurd c15 (gT h15a rfl (Nat.le_refl _) (by omega))
    | succ r ih =>
      intro j S1 hjr hD
      have hj : j < n := by omega
      obtain ⟨q, hq, hq2⟩ := hp j hj
      have hs1 : shp S S1 := hD.1
      have hg := shp_lnG hs1 hg
      have hgb := shp_lnG hs1 hgb
      have h15a : sF S1 15 a = nI n := by rw [hD.2.1, if_pos ⟨rfl, rfl⟩]
      have hbj : sB S1 pb j = some q := by rw [hD.2.2.1 pb (fun z => hne z.symm)]; exact hq
      have hqO := shp_o hs1 _ _ hq2
      refine q_iload_n F 2 dX1_takeMatching_10 rfl rfl ?_
      refine q_aload_n F 0 dX1_takeMatching_11 rfl rfl ?_
      refine qg_X1_30 F hg.1 dX1_takeMatching_12 ?_
      refine q_icmp_ge F 36 dX1_takeMatching_15 rfl (fun c15 => ?_) (fun c15 => ?_)
      · exact absurd c15 (gF h15a rfl hj (by omega))
      refine q_aload_n F 0 dX1_takeMatching_18 rfl rfl ?_
      refine qg_X1_11 F hg.2.1 hg.1 dX1_takeMatching_19 ?_
      refine q_iload_n F 2 dX1_takeMatching_22 rfl rfl ?_
      refine q_aload_n F 1 dX1_takeMatching_23 rfl rfl ?_
      refine qg_X1_11 F hgb.2.1 hgb.1 dX1_takeMatching_24 ?_
      refine q_iload_n F 2 dX1_takeMatching_27 rfl rfl ?_
      refine q_aald_p F hgb.2.2.1 hgb.2.2.2 rfl (Nat.lt_of_lt_of_le hj hn) (by decide) hbj dX1_takeMatching_28 ?_
      refine q_aast_p F hg.2.2.1 hg.2.2.2 rfl (Nat.lt_of_lt_of_le hj hn) (by decide) hqO dX1_takeMatching_29 ?_
      refine q_iinc F (nI (j + 1)) dX1_takeMatching_30 rfl (nI_inc j) (by decide) rfl ?_
      refine q_goto F 10 dX1_takeMatching_33 rfl ?_
      exact q_to (ih (j + 1) _ (by omega) (mch0_s hD hq)) ⟨rfl, rfl, rfl, trivial⟩
  exact q_to (L n 0 _ (by omega) (mch0_0 S a pa pb n)) ⟨rfl, rfl, rfl, trivial⟩

set_option maxHeartbeats 4000000 in
set_option maxRecDepth 100000 in
theorem c_X4_isToBeCleaned {l : Launch} {g : hG} {X : va_W} {S : hS} {h a : Nat} {days : Int32} (hO4 : isO S h 4) (hO1 : isO S a 1) : hMet l yX4_isToBeCleaned wsX4_isToBeCleaned rm_X4_isToBeCleaned g X S [.ref h, .ref a, .int days] (pI (b2 (decide (sF S 10 a = 0) && (en (sF S 46 h) (sF S 13 a) || decide (days ≤ sF S 46 h - sF S 12 a)))) S) := by
  refine h_start (maxL := 3) (ret := (some .boolean)) (by decide) rfl (Nat.le_of_ble_eq_true rfl) ?_
  intro p e s m args below meth c F hr hinit
  refine q_aload_n F 1 dX4_isToBeCleaned_0 rfl rfl ?_
  refine qg_X4_155 F hO1 dX4_isToBeCleaned_1 ?_
  refine q_if_ne F 35 dX4_isToBeCleaned_4 rfl (fun c4 => ?_) (fun c4 => ?_)
  · refine q_iconst F dX4_isToBeCleaned_35 hc_0 ?_
    exact (q_reti F hr rfl dX4_isToBeCleaned_36 (Nat.le_of_ble_eq_true rfl) (Nat.le_of_ble_eq_true rfl) ⟨by first | (simp [c4, b2]; done) | (simp [c4, b2_n0 c15, b2]; done) | (simp [c4, Int32.not_lt.mp c28, b2]; done) | (simp [c4, b2_0.mp c15, Int32.not_le.mpr c28, b2]; done), rfl⟩)
  refine q_aload_n F 1 dX4_isToBeCleaned_7 rfl rfl ?_
  refine q_aload_n F 0 dX4_isToBeCleaned_8 rfl rfl ?_
  refine qg_X4_146 F hO4 dX4_isToBeCleaned_9 ?_
  refine q_callV_i F (c_X1_hasEnded hO1) gX4_isToBeCleaned_X1_hasEnded rfl hd_X1_hasEnded ⟨Nat.le_of_ble_eq_true rfl, Nat.le_of_ble_eq_true rfl⟩ hO1 rfl rfl rfl (Nat.le_of_ble_eq_true rfl) dX4_isToBeCleaned_12 ⟨Nat.le_of_ble_eq_true rfl, Nat.le_of_ble_eq_true rfl⟩ ?_
  refine q_if_ne F 31 dX4_isToBeCleaned_15 rfl (fun c15 => ?_) (fun c15 => ?_)
  · refine q_iconst F dX4_isToBeCleaned_31 hc_1 ?_
    refine q_goto F 36 dX4_isToBeCleaned_32 rfl ?_
    exact (q_reti F hr rfl dX4_isToBeCleaned_36 (Nat.le_of_ble_eq_true rfl) (Nat.le_of_ble_eq_true rfl) ⟨by first | (simp [c4, b2]; done) | (simp [c4, b2_n0 c15, b2]; done) | (simp [c4, Int32.not_lt.mp c28, b2]; done) | (simp [c4, b2_0.mp c15, Int32.not_le.mpr c28, b2]; done), rfl⟩)
  refine q_aload_n F 0 dX4_isToBeCleaned_18 rfl rfl ?_
  refine qg_X4_146 F hO4 dX4_isToBeCleaned_19 ?_
  refine q_aload_n F 1 dX4_isToBeCleaned_22 rfl rfl ?_
  refine qg_X4_158 F hO1 dX4_isToBeCleaned_23 ?_
  refine q_isub F dX4_isToBeCleaned_26 ?_
  refine q_iload_n F 2 dX4_isToBeCleaned_27 rfl rfl ?_
  refine q_icmp_lt F 35 dX4_isToBeCleaned_28 rfl (fun c28 => ?_) (fun c28 => ?_)
  · refine q_iconst F dX4_isToBeCleaned_35 hc_0 ?_
    exact (q_reti F hr rfl dX4_isToBeCleaned_36 (Nat.le_of_ble_eq_true rfl) (Nat.le_of_ble_eq_true rfl) ⟨by first | (simp [c4, b2]; done) | (simp [c4, b2_n0 c15, b2]; done) | (simp [c4, Int32.not_lt.mp c28, b2]; done) | (simp [c4, b2_0.mp c15, Int32.not_le.mpr c28, b2]; done), rfl⟩)
  refine q_iconst F dX4_isToBeCleaned_31 hc_1 ?_
  refine q_goto F 36 dX4_isToBeCleaned_32 rfl ?_
  exact (q_reti F hr rfl dX4_isToBeCleaned_36 (Nat.le_of_ble_eq_true rfl) (Nat.le_of_ble_eq_true rfl) ⟨by first | (simp [c4, b2]; done) | (simp [c4, b2_n0 c15, b2]; done) | (simp [c4, Int32.not_lt.mp c28, b2]; done) | (simp [c4, b2_0.mp c15, Int32.not_le.mpr c28, b2]; done), rfl⟩)

set_option maxHeartbeats 4000000 in
set_option maxRecDepth 100000 in
theorem c_X4_takeOut {l : Launch} {g : hG} {X : va_W} {S : hS} {h bk ca sa : Nat} {ad pa : Nat → Nat} {sc : Nat → Int32} {M : Nat → Nat → Int32} {n0 nc ns : Nat} (hG : cG S h bk ca sa ad pa) (hC : cC S h ca sa ad pa sc M (n0 + 1) nc ns) {i : Nat} (hi : i < n0 + 1) : hMet l yX4_takeOut wsX4_takeOut rm_X4_takeOut g X S [.ref h, .int (nI i)] (pGV (fun S' => cP S S' h bk ca sa (fun k => ad (rotI i (n0 + 1) k)) pa (scN sc n0) (aRem M i (n0 + 1)) n0 nc ns)) := by
  refine h_start (maxL := 4) (ret := none) (by decide) rfl (Nat.le_of_ble_eq_true rfl) ?_
  intro p e s m args below meth c F hr hinit
  have hn40 := hC.1.2.2
  have hi40 : i < 40 := by omega
  refine q_aload_n F 0 dX4_takeOut_0 rfl rfl ?_
  refine qg_X4_11 F hG.2.1.1 hG.1 dX4_takeOut_1 ?_
  refine q_iload_n F 1 dX4_takeOut_4 rfl rfl ?_
  refine q_aald_l F hG.2.1.2.1 hG.2.1.2.2 rfl hi40 (by decide) (hG.2.2.2.2.1 _ hi40).1 dX4_takeOut_5 ?_
  refine q_astore_n F 2 dX4_takeOut_6 rfl (by decide) rfl ?_
  refine q_iload_n F 1 dX4_takeOut_7 rfl rfl ?_
  refine q_iconst F dX4_takeOut_8 hc_1 ?_
  refine q_iadd F dX4_takeOut_9 ?_
  refine q_top (v' := .int (nI (i + 1))) ?_ (congrArg Value.int (nI_1 i))
  refine q_istore_n F 3 dX4_takeOut_10 rfl (by decide) rfl ?_
  have L : ∀ (r j : Nat) (S1 : hS), j + r = n0 → i ≤ j → rotR S S1 bk ad i (j + 1) → V p l e rm_X4_takeOut s m args below meth c 4 g X (MQ below (hQ g X (pGV (fun S' => cP S S' h bk ca sa (fun k => ad (rotI i (n0 + 1) k)) pa (scN sc n0) (aRem M i (n0 + 1)) n0 nc ns))) args s rm_X4_takeOut.cells rm_X4_takeOut.slots (hA g)) S1 0 0 [(0, .ref h), (1, .int (nI i)), (2, .ref (ad i)), (3, .int (nI (j + 1)))] 11 [] := by
    intro r
    induction r with
    | zero =>
      intro j S1 hjr hij hD
      have hjn : j = n0 := by omega
      subst hjn
      have hs1 := hD.1.1
      have hO4 := shp_o hs1 _ _ hG.1
      have hbR : sR S1 40 h = some bk := by rw [hs1.2.2.1]; exact hG.2.1.1
      have hbO := shp_o hs1 _ _ hG.2.1.2.1
      have hbN : sN S1 bk = 40 := by rw [hs1.2.2.2.1]; exact hG.2.1.2.2
      have h41 : sF S1 41 h = nI (j + 1) := by rw [hD.1.2]; exact hC.1.1
      have hli := shp_o hs1 _ _ (hG.2.2.2.2.1 i (by omega)).2.1
      refine q_iload_n F 3 dX4_takeOut_11 rfl rfl ?_
      refine q_aload_n F 0 dX4_takeOut_12 rfl rfl ?_
      refine qg_X4_47 F hO4 dX4_takeOut_13 ?_
      refine q_icmp_ge F 39 dX4_takeOut_16 rfl (fun c16 => ?_) (fun c16 => ?_)
      · refine q_aload_n F 0 dX4_takeOut_39 rfl rfl ?_
        refine q_dup F dX4_takeOut_40 rfl ?_
        refine qg_X4_47 F hO4 dX4_takeOut_41 ?_
        refine q_iconst F dX4_takeOut_44 hc_1 ?_
        refine q_isub F dX4_takeOut_45 ?_
        refine q_top (v' := .int (nI j)) ?_ (congrArg Value.int (by rw [h41]; exact nI_pred j))
        refine qp_X4_47 F hO4 dX4_takeOut_46 ?_
        refine q_aload_n F 0 dX4_takeOut_49 rfl rfl ?_
        refine qg_X4_11 F (r_uF hbR) (o_uF hO4) dX4_takeOut_50 ?_
        refine q_aload_n F 0 dX4_takeOut_53 rfl rfl ?_
        refine qg_X4_47 F (o_uF hO4) dX4_takeOut_54 ?_
        refine q_top (v' := .int (nI j)) ?_ (congrArg Value.int (by rw [sF_uF, if_pos ⟨rfl, rfl⟩]))
        refine q_aload_n F 2 dX4_takeOut_57 rfl rfl ?_
        refine q_aast_l F (o_uF hbO) (n_uF hbN) rfl (by omega) (by decide) (o_uF hli) dX4_takeOut_58 ?_
        exact (q_retv F hr dX4_takeOut_59 (Nat.le_of_ble_eq_true rfl) (Nat.le_of_ble_eq_true rfl) ⟨rfl, cC_rem hG hC hi hD⟩)
      exact absurd c16 (gT h41 rfl (Nat.le_refl _) (by omega))
    | succ r ih =>
      intro j S1 hjr hij hD
      have hj : j + 1 < n0 + 1 := by omega
      have hs1 := hD.1.1
      have hO4 := shp_o hs1 _ _ hG.1
      have hbR : sR S1 40 h = some bk := by rw [hs1.2.2.1]; exact hG.2.1.1
      have hbO := shp_o hs1 _ _ hG.2.1.2.1
      have hbN : sN S1 bk = 40 := by rw [hs1.2.2.2.1]; exact hG.2.1.2.2
      have h41 : sF S1 41 h = nI (n0 + 1) := by rw [hD.1.2]; exact hC.1.1
      have hli := shp_o hs1 _ _ (hG.2.2.2.2.1 i (by omega)).2.1
      have hbj : sB S1 bk (j + 1) = some (ad (j + 1)) := by rw [hD.2.2 (j + 1) (by omega), if_neg (by omega)]
      have hlj := shp_o hs1 _ _ (hG.2.2.2.2.1 (j + 1) (by omega)).2.1
      refine q_iload_n F 3 dX4_takeOut_11 rfl rfl ?_
      refine q_aload_n F 0 dX4_takeOut_12 rfl rfl ?_
      refine qg_X4_47 F hO4 dX4_takeOut_13 ?_
      refine q_icmp_ge F 39 dX4_takeOut_16 rfl (fun c16 => ?_) (fun c16 => ?_)
      · exact absurd c16 (gF h41 rfl hj (by omega))
      refine q_aload_n F 0 dX4_takeOut_19 rfl rfl ?_
      refine qg_X4_11 F hbR hO4 dX4_takeOut_20 ?_
      refine q_iload_n F 3 dX4_takeOut_23 rfl rfl ?_
      refine q_iconst F dX4_takeOut_24 hc_1 ?_
      refine q_isub F dX4_takeOut_25 ?_
      refine q_top (v' := .int (nI j)) ?_ (congrArg Value.int (nI_pred j))
      refine q_aload_n F 0 dX4_takeOut_26 rfl rfl ?_
      refine qg_X4_11 F hbR hO4 dX4_takeOut_27 ?_
      refine q_iload_n F 3 dX4_takeOut_30 rfl rfl ?_
      refine q_aald_l F hbO hbN rfl (by omega) (by decide) hbj dX4_takeOut_31 ?_
      refine q_aast_l F hbO hbN rfl (by omega) (by decide) hlj dX4_takeOut_32 ?_
      refine q_iinc F (nI (j + 1 + 1)) dX4_takeOut_33 rfl (nI_inc (j + 1)) (by decide) rfl ?_
      refine q_goto F 11 dX4_takeOut_36 rfl ?_
      exact q_to (ih (j + 1) _ (by omega) (by omega) (rotR_s hD hij)) ⟨rfl, rfl, rfl, rfl, trivial⟩
  exact q_to (L (n0 - i) i S (by omega) (Nat.le_refl _) (rotR_0 (fun k hk => (hG.2.2.2.2.1 k hk).1))) ⟨rfl, rfl, rfl, rfl, trivial⟩

theorem seeB_f1 {M : Nat → Nat → Int32} {day key au name port : Int32} {i : Nat} (h : M 6 i = 1) : seeB M day key au name port i = false := by unfold seeB; rw [decide_eq_true h]; rfl
theorem seeB_f2 {M : Nat → Nat → Int32} {day key au name port : Int32} {i : Nat} (h : en day (M 8 i) = true) : seeB M day key au name port i = false := by unfold seeB; rw [h]; simp
theorem seeB_f3 {M : Nat → Nat → Int32} {day key au name port : Int32} {i : Nat} (h : (decide (M 5 i = key) || decide (M 5 i = au)) = false) : seeB M day key au name port i = false := by unfold seeB; rw [h]; simp
theorem seeB_f4 {M : Nat → Nat → Int32} {day key au name port : Int32} {i : Nat} (h : mt M i name port = false) : seeB M day key au name port i = false := by unfold seeB; rw [h, Bool.and_false]
theorem seeB_t {M : Nat → Nat → Int32} {day key au name port : Int32} {i : Nat} (h1 : ¬ M 6 i = 1) (h2 : en day (M 8 i) = false) (h3 : (decide (M 5 i = key) || decide (M 5 i = au)) = true) (h4 : mt M i name port = true) : seeB M day key au name port i = true := by unfold seeB; rw [decide_eq_false h1, h2, h3, h4]; rfl

set_option maxHeartbeats 4000000 in
set_option maxRecDepth 100000 in
theorem c_X4_seeToday {l : Launch} {g : hG} {X : va_W} {S : hS} {h bk ca sa : Nat} {ad pa : Nat → Nat} {sc : Nat → Int32} {M : Nat → Nat → Int32} {n nc ns : Nat} (hG : cG S h bk ca sa ad pa) (hC : cC S h ca sa ad pa sc M n nc ns) {name port key au : Int32} : hMet l yX4_seeToday wsX4_seeToday rm_X4_seeToday g X S [.ref h, .int name, .int port, .int key, .int au] (pGV (fun S' => cP S S' h bk ca sa ad pa sc (aSee (seeB M (sc 1) key au name port) (sc 1) M n) n nc ns)) := by
  refine h_start (maxL := 7) (ret := none) (by decide) rfl (Nat.le_of_ble_eq_true rfl) ?_
  intro p e s m args below meth c F hr hinit
  have hn40 := hC.1.2.2
  have hG0 := hG
  have hC0 := hC
  refine q_iconst F dX4_seeToday_0 hc_0 ?_
  refine q_istore F dX4_seeToday_1 (by decide) rfl ?_
  have L : ∀ (r j : Nat) (S1 : hS), j + r = n → cP S S1 h bk ca sa ad pa sc (aSee (seeB M (sc 1) key au name port) (sc 1) M j) n nc ns → V p l e rm_X4_seeToday s m args below meth c 7 g X (MQ below (hQ g X (pGV (fun S' => cP S S' h bk ca sa ad pa sc (aSee (seeB M (sc 1) key au name port) (sc 1) M n) n nc ns))) args s rm_X4_seeToday.cells rm_X4_seeToday.slots (hA g)) S1 0 0 [(0, .ref h), (1, .int name), (2, .int port), (3, .int key), (4, .int au), (5, .int (nI j))] 3 [] := by
    intro r
    induction r with
    | zero =>
      intro j S1 hjr hD
      have hjn : j = n := by omega
      subst hjn
      obtain ⟨hG, hC, hcl⟩ := id hD
      refine q_iload F dX4_seeToday_3 rfl ?_
      refine q_aload_n F 0 dX4_seeToday_5 rfl rfl ?_
      refine qg_X4_47 F hG.1 dX4_seeToday_6 ?_
      refine q_icmp_ge F 78 dX4_seeToday_9 rfl (fun c9 => ?_) (fun c9 => ?_)
      · exact (q_retv F hr dX4_seeToday_78 (Nat.le_of_ble_eq_true rfl) (Nat.le_of_ble_eq_true rfl) ⟨rfl, hD⟩)
      exact absurd c9 (gT hC.1.1 rfl (Nat.le_refl _) (by omega))
    | succ r ih =>
      intro j S1 hjr hD
      have hj : j < n := by omega
      obtain ⟨hG, hC, hcl⟩ := id hD
      have hi40 : j < 40 := by omega
      have hday := hC.2.2.2.2.1.1
      obtain ⟨pt, k, hL⟩ := hC.2.1 j hj
      have e6 : sF S1 10 (ad j) = M 6 j := by rw [hL.1.1, aSee_f (by decide)]
      have e5 : sF S1 11 (ad j) = M 5 j := by rw [hL.1.2.1, aSee_f (by decide)]
      have e8 : sF S1 13 (ad j) = M 8 j := by rw [hL.1.2.2.2, aSee_f (by decide)]
      have e9 := aSee_mt (b := seeB M (sc 1) key au name port) (d := sc 1) (M := M) (j := j) j name port
      refine q_iload F dX4_seeToday_3 rfl ?_
      refine q_aload_n F 0 dX4_seeToday_5 rfl rfl ?_
      refine qg_X4_47 F hG.1 dX4_seeToday_6 ?_
      refine q_icmp_ge F 78 dX4_seeToday_9 rfl (fun c9 => ?_) (fun c9 => ?_)
      · exact absurd c9 (gF hC.1.1 rfl hj (by omega))
      refine q_aload_n F 0 dX4_seeToday_12 rfl rfl ?_
      refine qg_X4_11 F hG.2.1.1 hG.1 dX4_seeToday_13 ?_
      refine q_iload F dX4_seeToday_16 rfl ?_
      refine q_aald_l F hG.2.1.2.1 hG.2.1.2.2 rfl hi40 (by decide) (hG.2.2.2.2.1 _ hi40).1 dX4_seeToday_18 ?_
      refine q_astore F dX4_seeToday_19 (by decide) rfl ?_
      refine q_aload F dX4_seeToday_21 rfl ?_
      refine qg_X4_155 F (hG.2.2.2.2.1 _ hi40).2.1 dX4_seeToday_23 ?_
      refine q_iconst F dX4_seeToday_26 hc_1 ?_
      refine q_icmp_eq F 72 dX4_seeToday_27 rfl (fun c27 => ?_) (fun c27 => ?_)
      · refine q_iinc F (nI (j + 1)) dX4_seeToday_72 rfl (nI_inc j) (by decide) rfl ?_
        refine q_goto F 3 dX4_seeToday_75 rfl ?_
        exact q_to (ih (j + 1) _ (by omega) (by first | (rw [aSee_s0 (show seeB M (sc 1) key au name port j = false from by first | exact seeB_f1 (by rw [← e6]; exact c27) | exact seeB_f2 (by rw [← e8, ← hday]; exact b2_n0 c39) | exact seeB_f3 (by rw [← e5]; exact b2_0.mp c50) | exact seeB_f4 (by rw [← e9]; exact b2_0.mp c60))]; exact hD) | (rw [aSee_s1 (show seeB M (sc 1) key au name port j = true from seeB_t (by rw [← e6]; exact c27) (by rw [← e8, ← hday]; exact b2_0.mp c39) (by rw [← e5]; exact b2_n0 c50) (by rw [← e9]; exact b2_n0 c60))]; obtain ⟨g1, g2, g3⟩ := cC_fld (d := sc 1) hG hC hj (Or.inl ⟨rfl, rfl⟩); exact ⟨g1, g2, hcl.trans g3⟩))) ⟨rfl, rfl, rfl, rfl, rfl, rfl, trivial⟩
      refine q_aload F dX4_seeToday_30 rfl ?_
      refine q_aload_n F 0 dX4_seeToday_32 rfl rfl ?_
      refine qg_X4_146 F hG.1 dX4_seeToday_33 ?_
      refine q_callV_i F (c_X1_hasEnded (hG.2.2.2.2.1 _ hi40).2.1) gX4_seeToday_X1_hasEnded rfl hd_X1_hasEnded ⟨Nat.le_of_ble_eq_true rfl, Nat.le_of_ble_eq_true rfl⟩ (hG.2.2.2.2.1 _ hi40).2.1 rfl rfl rfl (Nat.le_of_ble_eq_true rfl) dX4_seeToday_36 ⟨Nat.le_of_ble_eq_true rfl, Nat.le_of_ble_eq_true rfl⟩ ?_
      refine q_if_ne F 72 dX4_seeToday_39 rfl (fun c39 => ?_) (fun c39 => ?_)
      · refine q_iinc F (nI (j + 1)) dX4_seeToday_72 rfl (nI_inc j) (by decide) rfl ?_
        refine q_goto F 3 dX4_seeToday_75 rfl ?_
        exact q_to (ih (j + 1) _ (by omega) (by first | (rw [aSee_s0 (show seeB M (sc 1) key au name port j = false from by first | exact seeB_f1 (by rw [← e6]; exact c27) | exact seeB_f2 (by rw [← e8, ← hday]; exact b2_n0 c39) | exact seeB_f3 (by rw [← e5]; exact b2_0.mp c50) | exact seeB_f4 (by rw [← e9]; exact b2_0.mp c60))]; exact hD) | (rw [aSee_s1 (show seeB M (sc 1) key au name port j = true from seeB_t (by rw [← e6]; exact c27) (by rw [← e8, ← hday]; exact b2_0.mp c39) (by rw [← e5]; exact b2_n0 c50) (by rw [← e9]; exact b2_n0 c60))]; obtain ⟨g1, g2, g3⟩ := cC_fld (d := sc 1) hG hC hj (Or.inl ⟨rfl, rfl⟩); exact ⟨g1, g2, hcl.trans g3⟩))) ⟨rfl, rfl, rfl, rfl, rfl, rfl, trivial⟩
      refine q_aload F dX4_seeToday_42 rfl ?_
      refine q_iload_n F 3 dX4_seeToday_44 rfl rfl ?_
      refine q_iload F dX4_seeToday_45 rfl ?_
      refine q_callV_i F (c_X1_hasEither (hG.2.2.2.2.1 _ hi40).2.1) gX4_seeToday_X1_hasEither rfl hd_X1_hasEither ⟨Nat.le_of_ble_eq_true rfl, Nat.le_of_ble_eq_true rfl⟩ (hG.2.2.2.2.1 _ hi40).2.1 rfl rfl rfl (Nat.le_of_ble_eq_true rfl) dX4_seeToday_47 ⟨Nat.le_of_ble_eq_true rfl, Nat.le_of_ble_eq_true rfl⟩ ?_
      refine q_if_eq F 72 dX4_seeToday_50 rfl (fun c50 => ?_) (fun c50 => ?_)
      · refine q_iinc F (nI (j + 1)) dX4_seeToday_72 rfl (nI_inc j) (by decide) rfl ?_
        refine q_goto F 3 dX4_seeToday_75 rfl ?_
        exact q_to (ih (j + 1) _ (by omega) (by first | (rw [aSee_s0 (show seeB M (sc 1) key au name port j = false from by first | exact seeB_f1 (by rw [← e6]; exact c27) | exact seeB_f2 (by rw [← e8, ← hday]; exact b2_n0 c39) | exact seeB_f3 (by rw [← e5]; exact b2_0.mp c50) | exact seeB_f4 (by rw [← e9]; exact b2_0.mp c60))]; exact hD) | (rw [aSee_s1 (show seeB M (sc 1) key au name port j = true from seeB_t (by rw [← e6]; exact c27) (by rw [← e8, ← hday]; exact b2_0.mp c39) (by rw [← e5]; exact b2_n0 c50) (by rw [← e9]; exact b2_n0 c60))]; obtain ⟨g1, g2, g3⟩ := cC_fld (d := sc 1) hG hC hj (Or.inl ⟨rfl, rfl⟩); exact ⟨g1, g2, hcl.trans g3⟩))) ⟨rfl, rfl, rfl, rfl, rfl, rfl, trivial⟩
      refine q_aload F dX4_seeToday_53 rfl ?_
      refine q_iload_n F 1 dX4_seeToday_55 rfl rfl ?_
      refine q_iload_n F 2 dX4_seeToday_56 rfl rfl ?_
      refine q_callV_i F (c_X1_covers (hG.2.2.2.2.1 _ hi40).2 hL) gX4_seeToday_X1_covers rfl hd_X1_covers ⟨Nat.le_of_ble_eq_true rfl, Nat.le_of_ble_eq_true rfl⟩ (hG.2.2.2.2.1 _ hi40).2.1 rfl rfl rfl (Nat.le_of_ble_eq_true rfl) dX4_seeToday_57 ⟨Nat.le_of_ble_eq_true rfl, Nat.le_of_ble_eq_true rfl⟩ ?_
      refine q_if_eq F 72 dX4_seeToday_60 rfl (fun c60 => ?_) (fun c60 => ?_)
      · refine q_iinc F (nI (j + 1)) dX4_seeToday_72 rfl (nI_inc j) (by decide) rfl ?_
        refine q_goto F 3 dX4_seeToday_75 rfl ?_
        exact q_to (ih (j + 1) _ (by omega) (by first | (rw [aSee_s0 (show seeB M (sc 1) key au name port j = false from by first | exact seeB_f1 (by rw [← e6]; exact c27) | exact seeB_f2 (by rw [← e8, ← hday]; exact b2_n0 c39) | exact seeB_f3 (by rw [← e5]; exact b2_0.mp c50) | exact seeB_f4 (by rw [← e9]; exact b2_0.mp c60))]; exact hD) | (rw [aSee_s1 (show seeB M (sc 1) key au name port j = true from seeB_t (by rw [← e6]; exact c27) (by rw [← e8, ← hday]; exact b2_0.mp c39) (by rw [← e5]; exact b2_n0 c50) (by rw [← e9]; exact b2_n0 c60))]; obtain ⟨g1, g2, g3⟩ := cC_fld (d := sc 1) hG hC hj (Or.inl ⟨rfl, rfl⟩); exact ⟨g1, g2, hcl.trans g3⟩))) ⟨rfl, rfl, rfl, rfl, rfl, rfl, trivial⟩
      refine q_aload F dX4_seeToday_63 rfl ?_
      refine q_aload_n F 0 dX4_seeToday_65 rfl rfl ?_
      refine qg_X4_146 F hG.1 dX4_seeToday_66 ?_
      refine q_top (v' := .int (sc 1)) ?_ (congrArg Value.int hday)
      refine qp_X4_158 F (hG.2.2.2.2.1 _ hi40).2.1 dX4_seeToday_69 ?_
      refine q_iinc F (nI (j + 1)) dX4_seeToday_72 rfl (nI_inc j) (by decide) rfl ?_
      refine q_goto F 3 dX4_seeToday_75 rfl ?_
      exact q_to (ih (j + 1) _ (by omega) (by first | (rw [aSee_s0 (show seeB M (sc 1) key au name port j = false from by first | exact seeB_f1 (by rw [← e6]; exact c27) | exact seeB_f2 (by rw [← e8, ← hday]; exact b2_n0 c39) | exact seeB_f3 (by rw [← e5]; exact b2_0.mp c50) | exact seeB_f4 (by rw [← e9]; exact b2_0.mp c60))]; exact hD) | (rw [aSee_s1 (show seeB M (sc 1) key au name port j = true from seeB_t (by rw [← e6]; exact c27) (by rw [← e8, ← hday]; exact b2_0.mp c39) (by rw [← e5]; exact b2_n0 c50) (by rw [← e9]; exact b2_n0 c60))]; obtain ⟨g1, g2, g3⟩ := cC_fld (d := sc 1) hG hC hj (Or.inl ⟨rfl, rfl⟩); exact ⟨g1, g2, hcl.trans g3⟩))) ⟨rfl, rfl, rfl, rfl, rfl, rfl, trivial⟩
  exact q_to (L n 0 S (by omega) ⟨hG, hC, clF.rf S⟩) ⟨rfl, rfl, rfl, rfl, rfl, rfl, trivial⟩


