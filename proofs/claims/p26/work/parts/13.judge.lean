set_option maxHeartbeats 4000000 in
set_option maxRecDepth 100000 in
theorem c_X4_isLivePlain {l : Launch} {g : hG} {X : va_W} {S : hS} {h a : Nat} (hO4 : isO S h 4) (hO1 : isO S a 1) : hMet l yX4_isLivePlain wsX4_isLivePlain rm_X4_isLivePlain g X S [.ref h, .ref a] (pI (b2 (decide (sF S 10 a = 0) && !en (sF S 46 h) (sF S 13 a))) S) := by
  refine h_start (maxL := 2) (ret := (some .boolean)) (by decide) rfl (Nat.le_of_ble_eq_true rfl) ?_
  intro p e s m args below meth c F hr hinit
  refine q_aload_n F 1 dX4_isLivePlain_0 rfl rfl ?_
  refine qg_X4_155 F hO1 dX4_isLivePlain_1 ?_
  refine q_if_ne F 22 dX4_isLivePlain_4 rfl (fun c4 => ?_) (fun c4 => ?_)
  · refine q_iconst F dX4_isLivePlain_22 hc_0 ?_
    exact (q_reti F hr rfl dX4_isLivePlain_23 (Nat.le_of_ble_eq_true rfl) (Nat.le_of_ble_eq_true rfl) ⟨by simp_all [b2_0, b2], rfl⟩)
  refine q_aload_n F 1 dX4_isLivePlain_7 rfl rfl ?_
  refine q_aload_n F 0 dX4_isLivePlain_8 rfl rfl ?_
  refine qg_X4_146 F hO4 dX4_isLivePlain_9 ?_
  refine q_callV_i F (c_X1_hasEnded hO1) gX4_isLivePlain_X1_hasEnded rfl hd_X1_hasEnded ⟨Nat.le_of_ble_eq_true rfl, Nat.le_of_ble_eq_true rfl⟩ hO1 rfl rfl rfl (Nat.le_of_ble_eq_true rfl) dX4_isLivePlain_12 ⟨Nat.le_of_ble_eq_true rfl, Nat.le_of_ble_eq_true rfl⟩ ?_
  refine q_if_ne F 22 dX4_isLivePlain_15 rfl (fun c15 => ?_) (fun c15 => ?_)
  · refine q_iconst F dX4_isLivePlain_22 hc_0 ?_
    exact (q_reti F hr rfl dX4_isLivePlain_23 (Nat.le_of_ble_eq_true rfl) (Nat.le_of_ble_eq_true rfl) ⟨by simp_all [b2_0, b2], rfl⟩)
  refine q_iconst F dX4_isLivePlain_18 hc_1 ?_
  refine q_goto F 23 dX4_isLivePlain_19 rfl ?_
  exact (q_reti F hr rfl dX4_isLivePlain_23 (Nat.le_of_ble_eq_true rfl) (Nat.le_of_ble_eq_true rfl) ⟨by simp_all [b2_0, b2], rfl⟩)

set_option maxHeartbeats 4000000 in
set_option maxRecDepth 100000 in
theorem c_X4_authorityOf {l : Launch} {g : hG} {X : va_W} {S : hS} {a : Nat} (hO0 : isO S a 0) : hMet l yX4_authorityOf wsX4_authorityOf rm_X4_authorityOf g X S [.ref a] (pI (sF S 0 a) S) := by
  refine h_start (maxL := 1) (ret := (some .int)) (by decide) rfl (Nat.le_of_ble_eq_true rfl) ?_
  intro p e s m args below meth c F hr hinit
  refine q_aload_n F 0 dX4_authorityOf_0 rfl rfl ?_
  refine q_ifnonnull F 8 dX4_authorityOf_1 rfl ?_
  refine q_aload_n F 0 dX4_authorityOf_8 rfl rfl ?_
  refine qg_X4_219 F hO0 dX4_authorityOf_9 ?_
  exact (q_reti F hr rfl dX4_authorityOf_12 (Nat.le_of_ble_eq_true rfl) (Nat.le_of_ble_eq_true rfl) ⟨rfl, rfl⟩)

set_option maxHeartbeats 4000000 in
set_option maxRecDepth 100000 in
theorem c_X4_authorityOf_n {l : Launch} {g : hG} {X : va_W} {S : hS}  : hMet l yX4_authorityOf wsX4_authorityOf rm_X4_authorityOf g X S [.null] (pI (-1) S) := by
  refine h_start (maxL := 1) (ret := (some .int)) (by decide) rfl (Nat.le_of_ble_eq_true rfl) ?_
  intro p e s m args below meth c F hr hinit
  refine q_aload_nN F 0 dX4_authorityOf_0 rfl rfl ?_
  refine q_ifnonnullN F dX4_authorityOf_1 ?_
  refine q_iconst F dX4_authorityOf_4 hc_m1 ?_
  refine q_goto F 12 dX4_authorityOf_5 rfl ?_
  exact (q_reti F hr rfl dX4_authorityOf_12 (Nat.le_of_ble_eq_true rfl) (Nat.le_of_ble_eq_true rfl) ⟨rfl, rfl⟩)

set_option maxHeartbeats 4000000 in
set_option maxRecDepth 100000 in
theorem c_X4_judgementByMatch {l : Launch} {g : hG} {X : va_W} {S : hS} {h a : Nat} {key au : Int32} (hO4 : isO S h 4) (hO1 : isO S a 1) : hMet l yX4_judgementByMatch wsX4_judgementByMatch rm_X4_judgementByMatch g X S [.ref h, .ref a, .int key, .int au] (pI (jmF (sF S 10 a) (sF S 11 a) (sF S 13 a) (sF S 46 h) key au) S) := by
  refine h_start (maxL := 4) (ret := (some .int)) (by decide) rfl (Nat.le_of_ble_eq_true rfl) ?_
  intro p e s m args below meth c F hr hinit
  refine q_aload_n F 1 dX4_judgementByMatch_0 rfl rfl ?_
  refine qg_X4_155 F hO1 dX4_judgementByMatch_1 ?_
  refine q_iconst F dX4_judgementByMatch_4 hc_1 ?_
  refine q_icmp_ne F 19 dX4_judgementByMatch_5 rfl (fun c5 => ?_) (fun c5 => ?_)
  · refine q_aload_n F 0 dX4_judgementByMatch_19 rfl rfl ?_
    refine q_aload_n F 1 dX4_judgementByMatch_20 rfl rfl ?_
    refine q_callV_i F (c_X4_isLivePlain hO4 hO1) gX4_judgementByMatch_X4_isLivePlain rfl hd_X4_isLivePlain ⟨Nat.le_of_ble_eq_true rfl, Nat.le_of_ble_eq_true rfl⟩ hO4 rfl rfl rfl (Nat.le_of_ble_eq_true rfl) dX4_judgementByMatch_21 ⟨Nat.le_of_ble_eq_true rfl, Nat.le_of_ble_eq_true rfl⟩ ?_
    refine q_if_ne F 29 dX4_judgementByMatch_24 rfl (fun c24 => ?_) (fun c24 => ?_)
    · refine q_aload_n F 1 dX4_judgementByMatch_29 rfl rfl ?_
      refine qg_X4_65 F hO1 dX4_judgementByMatch_30 ?_
      refine q_iload_n F 2 dX4_judgementByMatch_33 rfl rfl ?_
      refine q_icmp_ne F 39 dX4_judgementByMatch_34 rfl (fun c34 => ?_) (fun c34 => ?_)
      · refine q_aload_n F 1 dX4_judgementByMatch_39 rfl rfl ?_
        refine qg_X4_65 F hO1 dX4_judgementByMatch_40 ?_
        refine q_callS_i F (c_X4_kindOf) gX4_judgementByMatch_X4_kindOf rfl hd_X4_kindOf ⟨Nat.le_of_ble_eq_true rfl, Nat.le_of_ble_eq_true rfl⟩ rfl rfl (Nat.le_of_ble_eq_true rfl) dX4_judgementByMatch_43 ⟨Nat.le_of_ble_eq_true rfl, Nat.le_of_ble_eq_true rfl⟩ ?_
        refine q_iload_n F 2 dX4_judgementByMatch_46 rfl rfl ?_
        refine q_callS_i F (c_X4_kindOf) gX4_judgementByMatch_X4_kindOf rfl hd_X4_kindOf ⟨Nat.le_of_ble_eq_true rfl, Nat.le_of_ble_eq_true rfl⟩ rfl rfl (Nat.le_of_ble_eq_true rfl) dX4_judgementByMatch_47 ⟨Nat.le_of_ble_eq_true rfl, Nat.le_of_ble_eq_true rfl⟩ ?_
        refine q_icmp_ne F 57 dX4_judgementByMatch_50 rfl (fun c50 => ?_) (fun c50 => ?_)
        · refine q_iconst F dX4_judgementByMatch_57 hc_4 ?_
          exact (q_reti F hr rfl dX4_judgementByMatch_58 (Nat.le_of_ble_eq_true rfl) (Nat.le_of_ble_eq_true rfl) ⟨by unfold jmF; first | (simp_all [b2_0, b2]; done) | (simp_all [b2_0, b2]; assumption), rfl⟩)
        refine q_iconst F dX4_judgementByMatch_53 hc_3 ?_
        refine q_goto F 58 dX4_judgementByMatch_54 rfl ?_
        exact (q_reti F hr rfl dX4_judgementByMatch_58 (Nat.le_of_ble_eq_true rfl) (Nat.le_of_ble_eq_true rfl) ⟨by unfold jmF; first | (simp_all [b2_0, b2]; done) | (simp_all [b2_0, b2]; assumption), rfl⟩)
      refine q_iconst F dX4_judgementByMatch_37 hc_2 ?_
      exact (q_reti F hr rfl dX4_judgementByMatch_38 (Nat.le_of_ble_eq_true rfl) (Nat.le_of_ble_eq_true rfl) ⟨by unfold jmF; first | (simp_all [b2_0, b2]; done) | (simp_all [b2_0, b2]; assumption), rfl⟩)
    refine q_iconst F dX4_judgementByMatch_27 hc_5 ?_
    exact (q_reti F hr rfl dX4_judgementByMatch_28 (Nat.le_of_ble_eq_true rfl) (Nat.le_of_ble_eq_true rfl) ⟨by unfold jmF; first | (simp_all [b2_0, b2]; done) | (simp_all [b2_0, b2]; assumption), rfl⟩)
  refine q_aload_n F 1 dX4_judgementByMatch_8 rfl rfl ?_
  refine q_iload_n F 2 dX4_judgementByMatch_9 rfl rfl ?_
  refine q_iload_n F 3 dX4_judgementByMatch_10 rfl rfl ?_
  refine q_callV_i F (c_X1_hasEither hO1) gX4_judgementByMatch_X1_hasEither rfl hd_X1_hasEither ⟨Nat.le_of_ble_eq_true rfl, Nat.le_of_ble_eq_true rfl⟩ hO1 rfl rfl rfl (Nat.le_of_ble_eq_true rfl) dX4_judgementByMatch_11 ⟨Nat.le_of_ble_eq_true rfl, Nat.le_of_ble_eq_true rfl⟩ ?_
  refine q_if_eq F 19 dX4_judgementByMatch_14 rfl (fun c14 => ?_) (fun c14 => ?_)
  · refine q_aload_n F 0 dX4_judgementByMatch_19 rfl rfl ?_
    refine q_aload_n F 1 dX4_judgementByMatch_20 rfl rfl ?_
    refine q_callV_i F (c_X4_isLivePlain hO4 hO1) gX4_judgementByMatch_X4_isLivePlain rfl hd_X4_isLivePlain ⟨Nat.le_of_ble_eq_true rfl, Nat.le_of_ble_eq_true rfl⟩ hO4 rfl rfl rfl (Nat.le_of_ble_eq_true rfl) dX4_judgementByMatch_21 ⟨Nat.le_of_ble_eq_true rfl, Nat.le_of_ble_eq_true rfl⟩ ?_
    refine q_if_ne F 29 dX4_judgementByMatch_24 rfl (fun c24 => ?_) (fun c24 => ?_)
    · refine q_aload_n F 1 dX4_judgementByMatch_29 rfl rfl ?_
      refine qg_X4_65 F hO1 dX4_judgementByMatch_30 ?_
      refine q_iload_n F 2 dX4_judgementByMatch_33 rfl rfl ?_
      refine q_icmp_ne F 39 dX4_judgementByMatch_34 rfl (fun c34 => ?_) (fun c34 => ?_)
      · refine q_aload_n F 1 dX4_judgementByMatch_39 rfl rfl ?_
        refine qg_X4_65 F hO1 dX4_judgementByMatch_40 ?_
        refine q_callS_i F (c_X4_kindOf) gX4_judgementByMatch_X4_kindOf rfl hd_X4_kindOf ⟨Nat.le_of_ble_eq_true rfl, Nat.le_of_ble_eq_true rfl⟩ rfl rfl (Nat.le_of_ble_eq_true rfl) dX4_judgementByMatch_43 ⟨Nat.le_of_ble_eq_true rfl, Nat.le_of_ble_eq_true rfl⟩ ?_
        refine q_iload_n F 2 dX4_judgementByMatch_46 rfl rfl ?_
        refine q_callS_i F (c_X4_kindOf) gX4_judgementByMatch_X4_kindOf rfl hd_X4_kindOf ⟨Nat.le_of_ble_eq_true rfl, Nat.le_of_ble_eq_true rfl⟩ rfl rfl (Nat.le_of_ble_eq_true rfl) dX4_judgementByMatch_47 ⟨Nat.le_of_ble_eq_true rfl, Nat.le_of_ble_eq_true rfl⟩ ?_
        refine q_icmp_ne F 57 dX4_judgementByMatch_50 rfl (fun c50 => ?_) (fun c50 => ?_)
        · refine q_iconst F dX4_judgementByMatch_57 hc_4 ?_
          exact (q_reti F hr rfl dX4_judgementByMatch_58 (Nat.le_of_ble_eq_true rfl) (Nat.le_of_ble_eq_true rfl) ⟨by unfold jmF; first | (simp_all [b2_0, b2]; done) | (simp_all [b2_0, b2]; assumption), rfl⟩)
        refine q_iconst F dX4_judgementByMatch_53 hc_3 ?_
        refine q_goto F 58 dX4_judgementByMatch_54 rfl ?_
        exact (q_reti F hr rfl dX4_judgementByMatch_58 (Nat.le_of_ble_eq_true rfl) (Nat.le_of_ble_eq_true rfl) ⟨by unfold jmF; first | (simp_all [b2_0, b2]; done) | (simp_all [b2_0, b2]; assumption), rfl⟩)
      refine q_iconst F dX4_judgementByMatch_37 hc_2 ?_
      exact (q_reti F hr rfl dX4_judgementByMatch_38 (Nat.le_of_ble_eq_true rfl) (Nat.le_of_ble_eq_true rfl) ⟨by unfold jmF; first | (simp_all [b2_0, b2]; done) | (simp_all [b2_0, b2]; assumption), rfl⟩)
    refine q_iconst F dX4_judgementByMatch_27 hc_5 ?_
    exact (q_reti F hr rfl dX4_judgementByMatch_28 (Nat.le_of_ble_eq_true rfl) (Nat.le_of_ble_eq_true rfl) ⟨by unfold jmF; first | (simp_all [b2_0, b2]; done) | (simp_all [b2_0, b2]; assumption), rfl⟩)
  refine q_iconst F dX4_judgementByMatch_17 hc_0 ?_
  exact (q_reti F hr rfl dX4_judgementByMatch_18 (Nat.le_of_ble_eq_true rfl) (Nat.le_of_ble_eq_true rfl) ⟨by unfold jmF; first | (simp_all [b2_0, b2]; done) | (simp_all [b2_0, b2]; assumption), rfl⟩)

set_option maxHeartbeats 4000000 in
set_option maxRecDepth 100000 in
theorem c_X4_judgementByLines {l : Launch} {g : hG} {X : va_W} {S : hS} {h bk ca sa : Nat} {ad pa : Nat → Nat} {sc : Nat → Int32} {M : Nat → Nat → Int32} {n nc ns : Nat} (hG : cG S h bk ca sa ad pa) (hC : cC S h ca sa ad pa sc M n nc ns) {name port key au : Int32} : hMet l yX4_judgementByLines wsX4_judgementByLines rm_X4_judgementByLines g X S [.ref h, .int name, .int port, .int key, .int au] (pI (jb (sc 1) M name port key au n) S) := by
  refine h_start (maxL := 7) (ret := (some .int)) (by decide) rfl (Nat.le_of_ble_eq_true rfl) ?_
  intro p e s m args below meth c F hr hinit
  have hn40 := hC.1.2.2
  refine q_iconst F dX4_judgementByLines_0 hc_5 ?_
  refine q_istore F dX4_judgementByLines_1 (by decide) rfl ?_
  refine q_iconst F dX4_judgementByLines_3 hc_0 ?_
  refine q_istore F dX4_judgementByLines_4 (by decide) rfl ?_
  have L : ∀ (r j : Nat), j + r = n → V p l e rm_X4_judgementByLines s m args below meth c 7 g X (MQ below (hQ g X (pI (jb (sc 1) M name port key au n) S)) args s rm_X4_judgementByLines.cells rm_X4_judgementByLines.slots (hA g)) S 0 0 [(0, .ref h), (1, .int name), (2, .int port), (3, .int key), (4, .int au), (5, .int (jb (sc 1) M name port key au j)), (6, .int (nI j))] 6 [] := by
    intro r
    induction r with
    | zero =>
      intro j hjr
      have hjn : j = n := by omega
      subst hjn
      refine q_iload F dX4_judgementByLines_6 rfl ?_
      refine q_aload_n F 0 dX4_judgementByLines_8 rfl rfl ?_
      refine qg_X4_47 F hG.1 dX4_judgementByLines_9 ?_
      refine q_icmp_ge F 57 dX4_judgementByLines_12 rfl (fun c12 => ?_) (fun c12 => ?_)
      · refine q_iload F dX4_judgementByLines_57 rfl ?_
        exact (q_reti F hr rfl dX4_judgementByLines_59 (Nat.le_of_ble_eq_true rfl) (Nat.le_of_ble_eq_true rfl) ⟨rfl, rfl⟩)
      exact absurd c12 (gT hC.1.1 rfl (Nat.le_refl _) (by omega))
    | succ r ih =>
      intro j hjr
      have hj : j < n := by omega
      have hi40 : j < 40 := Nat.lt_of_lt_of_le hj hC.1.2.2
      obtain ⟨pt, k, hL⟩ := hC.2.1 j hj
      refine q_iload F dX4_judgementByLines_6 rfl ?_
      refine q_aload_n F 0 dX4_judgementByLines_8 rfl rfl ?_
      refine qg_X4_47 F hG.1 dX4_judgementByLines_9 ?_
      refine q_icmp_ge F 57 dX4_judgementByLines_12 rfl (fun c12 => ?_) (fun c12 => ?_)
      · exact absurd c12 (gF hC.1.1 rfl hj (by omega))
      refine q_aload_n F 0 dX4_judgementByLines_15 rfl rfl ?_
      refine qg_X4_11 F hG.2.1.1 hG.1 dX4_judgementByLines_16 ?_
      refine q_iload F dX4_judgementByLines_19 rfl ?_
      refine q_aald_l F hG.2.1.2.1 hG.2.1.2.2 rfl hi40 (by decide) (hG.2.2.2.2.1 _ hi40).1 dX4_judgementByLines_21 ?_
      refine q_iload_n F 1 dX4_judgementByLines_22 rfl rfl ?_
      refine q_iload_n F 2 dX4_judgementByLines_23 rfl rfl ?_
      refine q_callV_i F (c_X1_covers (hG.2.2.2.2.1 _ hi40).2 hL) gX4_judgementByLines_X1_covers rfl hd_X1_covers ⟨Nat.le_of_ble_eq_true rfl, Nat.le_of_ble_eq_true rfl⟩ (hG.2.2.2.2.1 _ hi40).2.1 rfl rfl rfl (Nat.le_of_ble_eq_true rfl) dX4_judgementByLines_24 ⟨Nat.le_of_ble_eq_true rfl, Nat.le_of_ble_eq_true rfl⟩ ?_
      refine q_if_eq F 51 dX4_judgementByLines_27 rfl (fun c27 => ?_) (fun c27 => ?_)
      · refine q_iinc F (nI (j + 1)) dX4_judgementByLines_51 rfl (nI_inc j) (by decide) rfl ?_
        refine q_goto F 6 dX4_judgementByLines_54 rfl ?_
        exact q_to (ih (j + 1) (by omega)) ⟨rfl, rfl, rfl, rfl, rfl, congrArg (fun z => some (Value.int z)) (by first | exact (jb_s0 (b2_0.mp c27)).symm | (rw [jb_s1 (b2_n0 c27)]; unfold imin jm; rw [hL.1.1, hL.1.2.1, hL.1.2.2.2, hC.2.2.2.2.1.1])), rfl, trivial⟩
      refine q_iload F dX4_judgementByLines_30 rfl ?_
      refine q_aload_n F 0 dX4_judgementByLines_32 rfl rfl ?_
      refine q_aload_n F 0 dX4_judgementByLines_33 rfl rfl ?_
      refine qg_X4_11 F hG.2.1.1 hG.1 dX4_judgementByLines_34 ?_
      refine q_iload F dX4_judgementByLines_37 rfl ?_
      refine q_aald_l F hG.2.1.2.1 hG.2.1.2.2 rfl hi40 (by decide) (hG.2.2.2.2.1 _ hi40).1 dX4_judgementByLines_39 ?_
      refine q_iload_n F 3 dX4_judgementByLines_40 rfl rfl ?_
      refine q_iload F dX4_judgementByLines_41 rfl ?_
      refine q_callV_i F (c_X4_judgementByMatch hG.1 (hG.2.2.2.2.1 _ hi40).2.1) gX4_judgementByLines_X4_judgementByMatch rfl hd_X4_judgementByMatch ⟨Nat.le_of_ble_eq_true rfl, Nat.le_of_ble_eq_true rfl⟩ hG.1 rfl rfl rfl (Nat.le_of_ble_eq_true rfl) dX4_judgementByLines_43 ⟨Nat.le_of_ble_eq_true rfl, Nat.le_of_ble_eq_true rfl⟩ ?_
      refine q_min F (List.mem_of_getElem? (i := 244) (by decide +kernel)) dX4_judgementByLines_46 ⟨Nat.le_of_ble_eq_true rfl, Nat.le_of_ble_eq_true rfl⟩ ⟨Nat.le_of_ble_eq_true rfl, Nat.le_of_ble_eq_true rfl⟩ ?_
      refine q_istore F dX4_judgementByLines_49 (by decide) rfl ?_
      refine q_iinc F (nI (j + 1)) dX4_judgementByLines_51 rfl (nI_inc j) (by decide) rfl ?_
      refine q_goto F 6 dX4_judgementByLines_54 rfl ?_
      exact q_to (ih (j + 1) (by omega)) ⟨rfl, rfl, rfl, rfl, rfl, congrArg (fun z => some (Value.int z)) (by first | exact (jb_s0 (b2_0.mp c27)).symm | (rw [jb_s1 (b2_n0 c27)]; unfold imin jm; rw [hL.1.1, hL.1.2.1, hL.1.2.2.2, hC.2.2.2.2.1.1])), rfl, trivial⟩
  exact q_to (L n 0 (by omega)) ⟨rfl, rfl, rfl, rfl, rfl, rfl, rfl, trivial⟩

set_option maxHeartbeats 4000000 in
set_option maxRecDepth 100000 in
theorem c_X4_hasAuthority {l : Launch} {g : hG} {X : va_W} {S : hS} {h bk ca sa : Nat} {ad pa : Nat → Nat} {sc : Nat → Int32} {M : Nat → Nat → Int32} {n nc ns : Nat} (hG : cG S h bk ca sa ad pa) (hC : cC S h ca sa ad pa sc M n nc ns) {name port au : Int32} : hMet l yX4_hasAuthority wsX4_hasAuthority rm_X4_hasAuthority g X S [.ref h, .int au, .int name, .int port] (pI (b2 (anyN (ln (sc 1) M 2 au false name port) n)) S) := by
  refine h_start (maxL := 6) (ret := (some .boolean)) (by decide) rfl (Nat.le_of_ble_eq_true rfl) ?_
  intro p e s m args below meth c F hr hinit
  have hn40 := hC.1.2.2
  have hday := hC.2.2.2.2.1.1
  refine q_iconst F dX4_hasAuthority_0 hc_0 ?_
  refine q_istore F dX4_hasAuthority_1 (by decide) rfl ?_
  have L : ∀ (r j : Nat), j + r = n → anyN (ln (sc 1) M 2 au false name port) j = false → V p l e rm_X4_hasAuthority s m args below meth c 6 g X (MQ below (hQ g X (pI (b2 (anyN (ln (sc 1) M 2 au false name port) n)) S)) args s rm_X4_hasAuthority.cells rm_X4_hasAuthority.slots (hA g)) S 0 0 [(0, .ref h), (1, .int au), (2, .int name), (3, .int port), (4, .int (nI j))] 3 [] := by
    intro r
    induction r with
    | zero =>
      intro j hjr hD
      have hjn : j = n := by omega
      subst hjn
      refine q_iload F dX4_hasAuthority_3 rfl ?_
      refine q_aload_n F 0 dX4_hasAuthority_5 rfl rfl ?_
      refine qg_X4_47 F hG.1 dX4_hasAuthority_6 ?_
      refine q_icmp_ge F 69 dX4_hasAuthority_9 rfl (fun c9 => ?_) (fun c9 => ?_)
      · refine q_iconst F dX4_hasAuthority_69 hc_0 ?_
        exact (q_reti F hr rfl dX4_hasAuthority_70 (Nat.le_of_ble_eq_true rfl) (Nat.le_of_ble_eq_true rfl) ⟨by rw [hD]; rfl, rfl⟩)
      exact absurd c9 (gT hC.1.1 rfl (Nat.le_refl _) (by omega))
    | succ r ih =>
      intro j hjr hD
      have hj : j < n := by omega
      have hi40 : j < 40 := Nat.lt_of_lt_of_le hj hC.1.2.2
      obtain ⟨pt, k, hL⟩ := hC.2.1 j hj
      refine q_iload F dX4_hasAuthority_3 rfl ?_
      refine q_aload_n F 0 dX4_hasAuthority_5 rfl rfl ?_
      refine qg_X4_47 F hG.1 dX4_hasAuthority_6 ?_
      refine q_icmp_ge F 69 dX4_hasAuthority_9 rfl (fun c9 => ?_) (fun c9 => ?_)
      · exact absurd c9 (gF hC.1.1 rfl hj (by omega))
      refine q_aload_n F 0 dX4_hasAuthority_12 rfl rfl ?_
      refine qg_X4_11 F hG.2.1.1 hG.1 dX4_hasAuthority_13 ?_
      refine q_iload F dX4_hasAuthority_16 rfl ?_
      refine q_aald_l F hG.2.1.2.1 hG.2.1.2.2 rfl hi40 (by decide) (hG.2.2.2.2.1 _ hi40).1 dX4_hasAuthority_18 ?_
      refine q_astore F dX4_hasAuthority_19 (by decide) rfl ?_
      refine q_aload F dX4_hasAuthority_21 rfl ?_
      refine qg_X4_155 F (hG.2.2.2.2.1 _ hi40).2.1 dX4_hasAuthority_23 ?_
      refine q_iconst F dX4_hasAuthority_26 hc_2 ?_
      refine q_icmp_ne F 63 dX4_hasAuthority_27 rfl (fun c27 => ?_) (fun c27 => ?_)
      · refine q_iinc F (nI (j + 1)) dX4_hasAuthority_63 rfl (nI_inc j) (by decide) rfl ?_
        refine q_goto F 3 dX4_hasAuthority_66 rfl ?_
        exact q_to (ih (j + 1) (by omega) (anyN_s hD (by rw [cL_ln hL]; first | (simp [c27]; done) | (simp [c27, c36]; done) | (rw [hday] at c48; simp [b2_n0 c48]; done) | (simp [b2_0.mp c58]; done)))) ⟨rfl, rfl, rfl, rfl, rfl, trivial⟩
      refine q_aload F dX4_hasAuthority_30 rfl ?_
      refine qg_X4_65 F (hG.2.2.2.2.1 _ hi40).2.1 dX4_hasAuthority_32 ?_
      refine q_iload_n F 1 dX4_hasAuthority_35 rfl rfl ?_
      refine q_icmp_ne F 63 dX4_hasAuthority_36 rfl (fun c36 => ?_) (fun c36 => ?_)
      · refine q_iinc F (nI (j + 1)) dX4_hasAuthority_63 rfl (nI_inc j) (by decide) rfl ?_
        refine q_goto F 3 dX4_hasAuthority_66 rfl ?_
        exact q_to (ih (j + 1) (by omega) (anyN_s hD (by rw [cL_ln hL]; first | (simp [c27]; done) | (simp [c27, c36]; done) | (rw [hday] at c48; simp [b2_n0 c48]; done) | (simp [b2_0.mp c58]; done)))) ⟨rfl, rfl, rfl, rfl, rfl, trivial⟩
      refine q_aload F dX4_hasAuthority_39 rfl ?_
      refine q_aload_n F 0 dX4_hasAuthority_41 rfl rfl ?_
      refine qg_X4_146 F hG.1 dX4_hasAuthority_42 ?_
      refine q_callV_i F (c_X1_hasEnded (hG.2.2.2.2.1 _ hi40).2.1) gX4_hasAuthority_X1_hasEnded rfl hd_X1_hasEnded ⟨Nat.le_of_ble_eq_true rfl, Nat.le_of_ble_eq_true rfl⟩ (hG.2.2.2.2.1 _ hi40).2.1 rfl rfl rfl (Nat.le_of_ble_eq_true rfl) dX4_hasAuthority_45 ⟨Nat.le_of_ble_eq_true rfl, Nat.le_of_ble_eq_true rfl⟩ ?_
      refine q_if_ne F 63 dX4_hasAuthority_48 rfl (fun c48 => ?_) (fun c48 => ?_)
      · refine q_iinc F (nI (j + 1)) dX4_hasAuthority_63 rfl (nI_inc j) (by decide) rfl ?_
        refine q_goto F 3 dX4_hasAuthority_66 rfl ?_
        exact q_to (ih (j + 1) (by omega) (anyN_s hD (by rw [cL_ln hL]; first | (simp [c27]; done) | (simp [c27, c36]; done) | (rw [hday] at c48; simp [b2_n0 c48]; done) | (simp [b2_0.mp c58]; done)))) ⟨rfl, rfl, rfl, rfl, rfl, trivial⟩
      refine q_aload F dX4_hasAuthority_51 rfl ?_
      refine q_iload_n F 2 dX4_hasAuthority_53 rfl rfl ?_
      refine q_iload_n F 3 dX4_hasAuthority_54 rfl rfl ?_
      refine q_callV_i F (c_X1_covers (hG.2.2.2.2.1 _ hi40).2 hL) gX4_hasAuthority_X1_covers rfl hd_X1_covers ⟨Nat.le_of_ble_eq_true rfl, Nat.le_of_ble_eq_true rfl⟩ (hG.2.2.2.2.1 _ hi40).2.1 rfl rfl rfl (Nat.le_of_ble_eq_true rfl) dX4_hasAuthority_55 ⟨Nat.le_of_ble_eq_true rfl, Nat.le_of_ble_eq_true rfl⟩ ?_
      refine q_if_eq F 63 dX4_hasAuthority_58 rfl (fun c58 => ?_) (fun c58 => ?_)
      · refine q_iinc F (nI (j + 1)) dX4_hasAuthority_63 rfl (nI_inc j) (by decide) rfl ?_
        refine q_goto F 3 dX4_hasAuthority_66 rfl ?_
        exact q_to (ih (j + 1) (by omega) (anyN_s hD (by rw [cL_ln hL]; first | (simp [c27]; done) | (simp [c27, c36]; done) | (rw [hday] at c48; simp [b2_n0 c48]; done) | (simp [b2_0.mp c58]; done)))) ⟨rfl, rfl, rfl, rfl, rfl, trivial⟩
      refine q_iconst F dX4_hasAuthority_61 hc_1 ?_
      exact (q_reti F hr rfl dX4_hasAuthority_62 (Nat.le_of_ble_eq_true rfl) (Nat.le_of_ble_eq_true rfl) ⟨by rw [anyN_t (f := (ln (sc 1) M 2 au false name port)) hj (by rw [cL_ln hL]; rw [hday] at c48; simp [c27, c36, b2_0.mp c48, b2_n0 c58])]; rfl, rfl⟩)
  exact q_to (L n 0 (by omega) rfl) ⟨rfl, rfl, rfl, rfl, rfl, trivial⟩

set_option maxHeartbeats 4000000 in
set_option maxRecDepth 100000 in
theorem c_X4_isInRevokedSpan {l : Launch} {g : hG} {X : va_W} {S : hS} {h bk ca sa : Nat} {ad pa : Nat → Nat} {sc : Nat → Int32} {M : Nat → Nat → Int32} {n nc ns : Nat} (hG : cG S h bk ca sa ad pa) (hC : cC S h ca sa ad pa sc M n nc ns) {cr ci : Nat} (hR : crR S cr M ci) : hMet l yX4_isInRevokedSpan wsX4_isInRevokedSpan rm_X4_isInRevokedSpan g X S [.ref h, .ref cr] (pI (b2 (rv M ns ci)) S) := by
  refine h_start (maxL := 3) (ret := (some .boolean)) (by decide) rfl (Nat.le_of_ble_eq_true rfl) ?_
  intro p e s m args below meth c F hr hinit
  have hn20 := hC.2.2.2.1.2.2
  refine q_iconst F dX4_isInRevokedSpan_0 hc_0 ?_
  refine q_istore_n F 2 dX4_isInRevokedSpan_1 rfl (by decide) rfl ?_
  have L : ∀ (r j : Nat), j + r = ns → anyN (sp M ci) j = false → V p l e rm_X4_isInRevokedSpan s m args below meth c 3 g X (MQ below (hQ g X (pI (b2 (rv M ns ci)) S)) args s rm_X4_isInRevokedSpan.cells rm_X4_isInRevokedSpan.slots (hA g)) S 0 0 [(0, .ref h), (1, .ref cr), (2, .int (nI j))] 2 [] := by
    intro r
    induction r with
    | zero =>
      intro j hjr hD
      have hjn : j = ns := by omega
      subst hjn
      refine q_iload_n F 2 dX4_isInRevokedSpan_2 rfl rfl ?_
      refine q_aload_n F 0 dX4_isInRevokedSpan_3 rfl rfl ?_
      refine qg_X4_84 F hG.1 dX4_isInRevokedSpan_4 ?_
      refine q_icmp_ge F 38 dX4_isInRevokedSpan_7 rfl (fun c7 => ?_) (fun c7 => ?_)
      · refine q_iconst F dX4_isInRevokedSpan_38 hc_0 ?_
        exact (q_reti F hr rfl dX4_isInRevokedSpan_39 (Nat.le_of_ble_eq_true rfl) (Nat.le_of_ble_eq_true rfl) ⟨by rw [rv, hD]; rfl, rfl⟩)
      exact absurd c7 (gT hC.2.2.2.1.1 rfl (Nat.le_refl _) (by omega))
    | succ r ih =>
      intro j hjr hD
      have hj : j < ns := by omega
      obtain ⟨z, hz, hsp⟩ := hC.2.2.2.2.2.2.2 j hj
      have hsq := sp_of hsp hR
      refine q_iload_n F 2 dX4_isInRevokedSpan_2 rfl rfl ?_
      refine q_aload_n F 0 dX4_isInRevokedSpan_3 rfl rfl ?_
      refine qg_X4_84 F hG.1 dX4_isInRevokedSpan_4 ?_
      refine q_icmp_ge F 38 dX4_isInRevokedSpan_7 rfl (fun c7 => ?_) (fun c7 => ?_)
      · exact absurd c7 (gF hC.2.2.2.1.1 rfl hj (by omega))
      refine q_aload_n F 0 dX4_isInRevokedSpan_10 rfl rfl ?_
      refine qg_X4_23 F hG.2.2.2.1.1 hG.1 dX4_isInRevokedSpan_11 ?_
      refine q_iload_n F 2 dX4_isInRevokedSpan_14 rfl rfl ?_
      refine q_aald_s F hG.2.2.2.1.2.1 hG.2.2.2.1.2.2 rfl (by omega) (by decide) hz dX4_isInRevokedSpan_15 ?_
      refine q_aload_n F 1 dX4_isInRevokedSpan_16 rfl rfl ?_
      refine qg_X4_219 F hR.1 dX4_isInRevokedSpan_17 ?_
      refine q_aload_n F 1 dX4_isInRevokedSpan_20 rfl rfl ?_
      refine qg_X4_245 F hR.1 dX4_isInRevokedSpan_21 ?_
      refine q_callV_i F (c_X3_holds hsp.1) gX4_isInRevokedSpan_X3_holds rfl hd_X3_holds ⟨Nat.le_of_ble_eq_true rfl, Nat.le_of_ble_eq_true rfl⟩ hsp.1 rfl rfl rfl (Nat.le_of_ble_eq_true rfl) dX4_isInRevokedSpan_24 ⟨Nat.le_of_ble_eq_true rfl, Nat.le_of_ble_eq_true rfl⟩ ?_
      refine q_if_eq F 32 dX4_isInRevokedSpan_27 rfl (fun c27 => ?_) (fun c27 => ?_)
      · refine q_iinc F (nI (j + 1)) dX4_isInRevokedSpan_32 rfl (nI_inc j) (by decide) rfl ?_
        refine q_goto F 2 dX4_isInRevokedSpan_35 rfl ?_
        exact q_to (ih (j + 1) (by omega) (anyN_s hD (by rw [hsq]; simpa [b2_0] using c27))) ⟨rfl, rfl, rfl, trivial⟩
      refine q_iconst F dX4_isInRevokedSpan_30 hc_1 ?_
      exact (q_reti F hr rfl dX4_isInRevokedSpan_31 (Nat.le_of_ble_eq_true rfl) (Nat.le_of_ble_eq_true rfl) ⟨by rw [rv, anyN_t hj (by rw [hsq]; simpa [b2_0] using c27)]; rfl, rfl⟩)
  exact q_to (L ns 0 (by omega) rfl) ⟨rfl, rfl, rfl, trivial⟩

set_option maxHeartbeats 4000000 in
set_option maxRecDepth 100000 in
theorem c_X4_countRevokedCertificates {l : Launch} {g : hG} {X : va_W} {S : hS} {h bk ca sa : Nat} {ad pa : Nat → Nat} {sc : Nat → Int32} {M : Nat → Nat → Int32} {n nc ns : Nat} (hG : cG S h bk ca sa ad pa) (hC : cC S h ca sa ad pa sc M n nc ns) : hMet l yX4_countRevokedCertificates wsX4_countRevokedCertificates rm_X4_countRevokedCertificates g X S [.ref h] (pI (cntN (rv M ns) nc) S) := by
  refine h_start (maxL := 3) (ret := (some .int)) (by decide) rfl (Nat.le_of_ble_eq_true rfl) ?_
  intro p e s m args below meth c F hr hinit
  have hn20 := hC.2.2.1.2.2
  refine q_iconst F dX4_countRevokedCertificates_0 hc_0 ?_
  refine q_istore_n F 1 dX4_countRevokedCertificates_1 rfl (by decide) rfl ?_
  refine q_iconst F dX4_countRevokedCertificates_2 hc_0 ?_
  refine q_istore_n F 2 dX4_countRevokedCertificates_3 rfl (by decide) rfl ?_
  have L : ∀ (r j : Nat), j + r = nc → V p l e rm_X4_countRevokedCertificates s m args below meth c 3 g X (MQ below (hQ g X (pI (cntN (rv M ns) nc) S)) args s rm_X4_countRevokedCertificates.cells rm_X4_countRevokedCertificates.slots (hA g)) S 0 0 [(0, .ref h), (1, .int (cntN (rv M ns) j)), (2, .int (nI j))] 4 [] := by
    intro r
    induction r with
    | zero =>
      intro j hjr
      have hjn : j = nc := by omega
      subst hjn
      refine q_iload_n F 2 dX4_countRevokedCertificates_4 rfl rfl ?_
      refine q_aload_n F 0 dX4_countRevokedCertificates_5 rfl rfl ?_
      refine qg_X4_71 F hG.1 dX4_countRevokedCertificates_6 ?_
      refine q_icmp_ge F 34 dX4_countRevokedCertificates_9 rfl (fun c9 => ?_) (fun c9 => ?_)
      · refine q_iload_n F 1 dX4_countRevokedCertificates_34 rfl rfl ?_
        exact (q_reti F hr rfl dX4_countRevokedCertificates_35 (Nat.le_of_ble_eq_true rfl) (Nat.le_of_ble_eq_true rfl) ⟨rfl, rfl⟩)
      exact absurd c9 (gT hC.2.2.1.1 rfl (Nat.le_refl _) (by omega))
    | succ r ih =>
      intro j hjr
      have hj : j < nc := by omega
      obtain ⟨z, hz, hR⟩ := hC.2.2.2.2.2.2.1 j hj
      refine q_iload_n F 2 dX4_countRevokedCertificates_4 rfl rfl ?_
      refine q_aload_n F 0 dX4_countRevokedCertificates_5 rfl rfl ?_
      refine qg_X4_71 F hG.1 dX4_countRevokedCertificates_6 ?_
      refine q_icmp_ge F 34 dX4_countRevokedCertificates_9 rfl (fun c9 => ?_) (fun c9 => ?_)
      · exact absurd c9 (gF hC.2.2.1.1 rfl hj (by omega))
      refine q_aload_n F 0 dX4_countRevokedCertificates_12 rfl rfl ?_
      refine q_aload_n F 0 dX4_countRevokedCertificates_13 rfl rfl ?_
      refine qg_X4_17 F hG.2.2.1.1 hG.1 dX4_countRevokedCertificates_14 ?_
      refine q_iload_n F 2 dX4_countRevokedCertificates_17 rfl rfl ?_
      refine q_aald_c F hG.2.2.1.2.1 hG.2.2.1.2.2 rfl (by omega) (by decide) hz dX4_countRevokedCertificates_18 ?_
      refine q_callV_i F (c_X4_isInRevokedSpan hG hC hR) gX4_countRevokedCertificates_X4_isInRevokedSpan rfl hd_X4_isInRevokedSpan ⟨Nat.le_of_ble_eq_true rfl, Nat.le_of_ble_eq_true rfl⟩ hG.1 rfl rfl rfl (Nat.le_of_ble_eq_true rfl) dX4_countRevokedCertificates_19 ⟨Nat.le_of_ble_eq_true rfl, Nat.le_of_ble_eq_true rfl⟩ ?_
      refine q_if_eq F 28 dX4_countRevokedCertificates_22 rfl (fun c22 => ?_) (fun c22 => ?_)
      · refine q_iinc F (nI (j + 1)) dX4_countRevokedCertificates_28 rfl (nI_inc j) (by decide) rfl ?_
        refine q_goto F 4 dX4_countRevokedCertificates_31 rfl ?_
        exact q_to (ih (j + 1) (by omega)) ⟨rfl, congrArg (fun z => some (Value.int z)) (by rw [cntN]; simp only [b2_0, Bool.not_eq_false] at c22; rw [c22]; first | rfl | exact (Int32.add_zero _).symm), rfl, trivial⟩
      refine q_iinc F _ dX4_countRevokedCertificates_25 rfl rfl (by decide) rfl ?_
      refine q_iinc F (nI (j + 1)) dX4_countRevokedCertificates_28 rfl (nI_inc j) (by decide) rfl ?_
      refine q_goto F 4 dX4_countRevokedCertificates_31 rfl ?_
      exact q_to (ih (j + 1) (by omega)) ⟨rfl, congrArg (fun z => some (Value.int z)) (by rw [cntN]; simp only [b2_0, Bool.not_eq_false] at c22; rw [c22]; first | rfl | exact (Int32.add_zero _).symm), rfl, trivial⟩
  exact q_to (L nc 0 (by omega)) ⟨rfl, rfl, rfl, trivial⟩

set_option maxHeartbeats 4000000 in
set_option maxRecDepth 100000 in
theorem c_X4_isGood {l : Launch} {g : hG} {X : va_W} {S : hS} {h bk ca sa : Nat} {ad pa : Nat → Nat} {sc : Nat → Int32} {M : Nat → Nat → Int32} {n nc ns : Nat} (hG : cG S h bk ca sa ad pa) (hC : cC S h ca sa ad pa sc M n nc ns) {cr ci : Nat} {name port : Int32} (hR : crR S cr M ci) : hMet l yX4_isGood wsX4_isGood rm_X4_isGood g X S [.ref h, .ref cr, .int name, .int port] (pI (b2 (gd (sc 1) M n ns ci name port)) S) := by
  refine h_start (maxL := 4) (ret := (some .boolean)) (by decide) rfl (Nat.le_of_ble_eq_true rfl) ?_
  intro p e s m args below meth c F hr hinit
  have hday := hC.2.2.2.2.1.1
  obtain ⟨hR0, r18, r19, r20, r21, r22, r23, r24⟩ := id hR
  refine q_aload_n F 1 dX4_isGood_0 rfl rfl ?_
  refine qg_X4_222 F hR.1 dX4_isGood_1 ?_
  refine q_aload_n F 1 dX4_isGood_4 rfl rfl ?_
  refine qg_X4_225 F hR.1 dX4_isGood_5 ?_
  refine q_iload_n F 2 dX4_isGood_8 rfl rfl ?_
  refine q_callS_i F (c_X4_isSameAt) gX4_isGood_X4_isSameAt rfl hd_X4_isSameAt ⟨Nat.le_of_ble_eq_true rfl, Nat.le_of_ble_eq_true rfl⟩ rfl rfl (Nat.le_of_ble_eq_true rfl) dX4_isGood_9 ⟨Nat.le_of_ble_eq_true rfl, Nat.le_of_ble_eq_true rfl⟩ ?_
  refine q_if_eq F 62 dX4_isGood_12 rfl (fun c12 => ?_) (fun c12 => ?_)
  · refine q_iconst F dX4_isGood_62 hc_0 ?_
    exact (q_reti F hr rfl dX4_isGood_63 (Nat.le_of_ble_eq_true rfl) (Nat.le_of_ble_eq_true rfl) ⟨by unfold gd; rw [← r18, ← r20, ← r21, ← r23, ← r24]; first | (simp [b2_0.mp c12, b2]; done) | (rw [hday] at c23; simp [Int32.not_le.mpr c23, b2]; done) | (rw [hday] at c34; simp [Int32.not_le.mpr c34, b2]; done) | (simp [b2_n0 c42, b2]; done) | (simp [b2_0.mp c55, b2]; done) | (rw [hday] at c23 c34; simp [b2_n0 c12, Int32.not_lt.mp c23, Int32.not_lt.mp c34, b2_0.mp c42, b2_n0 c55, b2]), rfl⟩)
  refine q_aload_n F 0 dX4_isGood_15 rfl rfl ?_
  refine qg_X4_146 F hG.1 dX4_isGood_16 ?_
  refine q_aload_n F 1 dX4_isGood_19 rfl rfl ?_
  refine qg_X4_232 F hR.1 dX4_isGood_20 ?_
  refine q_icmp_lt F 62 dX4_isGood_23 rfl (fun c23 => ?_) (fun c23 => ?_)
  · refine q_iconst F dX4_isGood_62 hc_0 ?_
    exact (q_reti F hr rfl dX4_isGood_63 (Nat.le_of_ble_eq_true rfl) (Nat.le_of_ble_eq_true rfl) ⟨by unfold gd; rw [← r18, ← r20, ← r21, ← r23, ← r24]; first | (simp [b2_0.mp c12, b2]; done) | (rw [hday] at c23; simp [Int32.not_le.mpr c23, b2]; done) | (rw [hday] at c34; simp [Int32.not_le.mpr c34, b2]; done) | (simp [b2_n0 c42, b2]; done) | (simp [b2_0.mp c55, b2]; done) | (rw [hday] at c23 c34; simp [b2_n0 c12, Int32.not_lt.mp c23, Int32.not_lt.mp c34, b2_0.mp c42, b2_n0 c55, b2]), rfl⟩)
  refine q_aload_n F 0 dX4_isGood_26 rfl rfl ?_
  refine qg_X4_146 F hG.1 dX4_isGood_27 ?_
  refine q_aload_n F 1 dX4_isGood_30 rfl rfl ?_
  refine qg_X4_235 F hR.1 dX4_isGood_31 ?_
  refine q_icmp_gt F 62 dX4_isGood_34 rfl (fun c34 => ?_) (fun c34 => ?_)
  · refine q_iconst F dX4_isGood_62 hc_0 ?_
    exact (q_reti F hr rfl dX4_isGood_63 (Nat.le_of_ble_eq_true rfl) (Nat.le_of_ble_eq_true rfl) ⟨by unfold gd; rw [← r18, ← r20, ← r21, ← r23, ← r24]; first | (simp [b2_0.mp c12, b2]; done) | (rw [hday] at c23; simp [Int32.not_le.mpr c23, b2]; done) | (rw [hday] at c34; simp [Int32.not_le.mpr c34, b2]; done) | (simp [b2_n0 c42, b2]; done) | (simp [b2_0.mp c55, b2]; done) | (rw [hday] at c23 c34; simp [b2_n0 c12, Int32.not_lt.mp c23, Int32.not_lt.mp c34, b2_0.mp c42, b2_n0 c55, b2]), rfl⟩)
  refine q_aload_n F 0 dX4_isGood_37 rfl rfl ?_
  refine q_aload_n F 1 dX4_isGood_38 rfl rfl ?_
  refine q_callV_i F (c_X4_isInRevokedSpan hG hC hR) gX4_isGood_X4_isInRevokedSpan rfl hd_X4_isInRevokedSpan ⟨Nat.le_of_ble_eq_true rfl, Nat.le_of_ble_eq_true rfl⟩ hG.1 rfl rfl rfl (Nat.le_of_ble_eq_true rfl) dX4_isGood_39 ⟨Nat.le_of_ble_eq_true rfl, Nat.le_of_ble_eq_true rfl⟩ ?_
  refine q_if_ne F 62 dX4_isGood_42 rfl (fun c42 => ?_) (fun c42 => ?_)
  · refine q_iconst F dX4_isGood_62 hc_0 ?_
    exact (q_reti F hr rfl dX4_isGood_63 (Nat.le_of_ble_eq_true rfl) (Nat.le_of_ble_eq_true rfl) ⟨by unfold gd; rw [← r18, ← r20, ← r21, ← r23, ← r24]; first | (simp [b2_0.mp c12, b2]; done) | (rw [hday] at c23; simp [Int32.not_le.mpr c23, b2]; done) | (rw [hday] at c34; simp [Int32.not_le.mpr c34, b2]; done) | (simp [b2_n0 c42, b2]; done) | (simp [b2_0.mp c55, b2]; done) | (rw [hday] at c23 c34; simp [b2_n0 c12, Int32.not_lt.mp c23, Int32.not_lt.mp c34, b2_0.mp c42, b2_n0 c55, b2]), rfl⟩)
  refine q_aload_n F 0 dX4_isGood_45 rfl rfl ?_
  refine q_aload_n F 1 dX4_isGood_46 rfl rfl ?_
  refine qg_X4_219 F hR.1 dX4_isGood_47 ?_
  refine q_iload_n F 2 dX4_isGood_50 rfl rfl ?_
  refine q_iload_n F 3 dX4_isGood_51 rfl rfl ?_
  refine q_callV_i F (c_X4_hasAuthority hG hC) gX4_isGood_X4_hasAuthority rfl hd_X4_hasAuthority ⟨Nat.le_of_ble_eq_true rfl, Nat.le_of_ble_eq_true rfl⟩ hG.1 rfl rfl rfl (Nat.le_of_ble_eq_true rfl) dX4_isGood_52 ⟨Nat.le_of_ble_eq_true rfl, Nat.le_of_ble_eq_true rfl⟩ ?_
  refine q_if_eq F 62 dX4_isGood_55 rfl (fun c55 => ?_) (fun c55 => ?_)
  · refine q_iconst F dX4_isGood_62 hc_0 ?_
    exact (q_reti F hr rfl dX4_isGood_63 (Nat.le_of_ble_eq_true rfl) (Nat.le_of_ble_eq_true rfl) ⟨by unfold gd; rw [← r18, ← r20, ← r21, ← r23, ← r24]; first | (simp [b2_0.mp c12, b2]; done) | (rw [hday] at c23; simp [Int32.not_le.mpr c23, b2]; done) | (rw [hday] at c34; simp [Int32.not_le.mpr c34, b2]; done) | (simp [b2_n0 c42, b2]; done) | (simp [b2_0.mp c55, b2]; done) | (rw [hday] at c23 c34; simp [b2_n0 c12, Int32.not_lt.mp c23, Int32.not_lt.mp c34, b2_0.mp c42, b2_n0 c55, b2]), rfl⟩)
  refine q_iconst F dX4_isGood_58 hc_1 ?_
  refine q_goto F 63 dX4_isGood_59 rfl ?_
  exact (q_reti F hr rfl dX4_isGood_63 (Nat.le_of_ble_eq_true rfl) (Nat.le_of_ble_eq_true rfl) ⟨by unfold gd; rw [← r18, ← r20, ← r21, ← r23, ← r24]; first | (simp [b2_0.mp c12, b2]; done) | (rw [hday] at c23; simp [Int32.not_le.mpr c23, b2]; done) | (rw [hday] at c34; simp [Int32.not_le.mpr c34, b2]; done) | (simp [b2_n0 c42, b2]; done) | (simp [b2_0.mp c55, b2]; done) | (rw [hday] at c23 c34; simp [b2_n0 c12, Int32.not_lt.mp c23, Int32.not_lt.mp c34, b2_0.mp c42, b2_n0 c55, b2]), rfl⟩)


