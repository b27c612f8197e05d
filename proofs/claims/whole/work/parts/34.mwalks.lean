set_option maxHeartbeats 4000000 in
set_option maxRecDepth 100000 in
theorem c_X5_adds {l : Launch} {g : hG} {X : va_W} {S : hS} {md : Nat} {ar : Nat → Nat} {sc : Nat → Int32} {M : Nat → Nat → Int32} (hM : mS S md ar sc M) {n : Nat} (hn : sc 4 = nI n) (hlt : n < 40) {mk key : Int32} : hMet l yX5_adds wsX5_adds rm_X5_adds g X S [.ref md, .int mk, .int key] (mV S md ar (scN sc (n + 1)) (aAdd M n mk key (sc 1))) := by
  refine h_start (maxL := 3) (ret := none) (by decide) rfl (Nat.le_of_ble_eq_true rfl) ?_
  intro p e s m args below meth c F hr hinit
  have hm := mdF.rf S
  refine q_aload_n F 0 dX5_adds_0 rfl rfl ?_
  refine qg_X5_13 F (hM.1.2.1 5 rfl).1 hM.1.1 dX5_adds_1 ?_
  refine q_aload_n F 0 dX5_adds_4 rfl rfl ?_
  refine qg_X5_91 F hM.1.1 dX5_adds_5 ?_
  refine q_mg 4 (nI n) rfl hM hn ?_
  refine q_iload_n F 2 dX5_adds_8 rfl rfl ?_
  refine q_iast F (hM.1.2.1 5 rfl).2.1 (hM.1.2.1 5 rfl).2.2 rfl hlt (by decide) dX5_adds_9 ?_
  refine q_mA 5 rfl hM hm (fun S9 hM hm => ?_)
  refine q_aload_n F 0 dX5_adds_10 rfl rfl ?_
  refine qg_X5_17 F (hM.1.2.1 6 rfl).1 hM.1.1 dX5_adds_11 ?_
  refine q_aload_n F 0 dX5_adds_14 rfl rfl ?_
  refine qg_X5_91 F hM.1.1 dX5_adds_15 ?_
  refine q_mg 4 (nI n) rfl hM hn ?_
  refine q_iload_n F 1 dX5_adds_18 rfl rfl ?_
  refine q_iast F (hM.1.2.1 6 rfl).2.1 (hM.1.2.1 6 rfl).2.2 rfl hlt (by decide) dX5_adds_19 ?_
  refine q_mA 6 rfl hM hm (fun S19 hM hm => ?_)
  refine q_aload_n F 0 dX5_adds_20 rfl rfl ?_
  refine qg_X5_20 F (hM.1.2.1 7 rfl).1 hM.1.1 dX5_adds_21 ?_
  refine q_aload_n F 0 dX5_adds_24 rfl rfl ?_
  refine qg_X5_91 F hM.1.1 dX5_adds_25 ?_
  refine q_mg 4 (nI n) rfl hM hn ?_
  refine q_aload_n F 0 dX5_adds_28 rfl rfl ?_
  refine qg_X5_101 F hM.1.1 dX5_adds_29 ?_
  refine q_mg 1 (sc 1) rfl hM rfl ?_
  refine q_iast F (hM.1.2.1 7 rfl).2.1 (hM.1.2.1 7 rfl).2.2 rfl hlt (by decide) dX5_adds_32 ?_
  refine q_mA 7 rfl hM hm (fun S32 hM hm => ?_)
  refine q_aload_n F 0 dX5_adds_33 rfl rfl ?_
  refine qg_X5_23 F (hM.1.2.1 8 rfl).1 hM.1.1 dX5_adds_34 ?_
  refine q_aload_n F 0 dX5_adds_37 rfl rfl ?_
  refine qg_X5_91 F hM.1.1 dX5_adds_38 ?_
  refine q_mg 4 (nI n) rfl hM hn ?_
  refine q_iconst F dX5_adds_41 hc_m1 ?_
  refine q_iast F (hM.1.2.1 8 rfl).2.1 (hM.1.2.1 8 rfl).2.2 rfl hlt (by decide) dX5_adds_42 ?_
  refine q_mA 8 rfl hM hm (fun S42 hM hm => ?_)
  refine q_aload_n F 0 dX5_adds_43 rfl rfl ?_
  refine qg_X5_26 F (hM.1.2.1 9 rfl).1 hM.1.1 dX5_adds_44 ?_
  refine q_aload_n F 0 dX5_adds_47 rfl rfl ?_
  refine qg_X5_91 F hM.1.1 dX5_adds_48 ?_
  refine q_mg 4 (nI n) rfl hM hn ?_
  refine q_iconst F dX5_adds_51 hc_m1 ?_
  refine q_iast F (hM.1.2.1 9 rfl).2.1 (hM.1.2.1 9 rfl).2.2 rfl hlt (by decide) dX5_adds_52 ?_
  refine q_mA 9 rfl hM hm (fun S52 hM hm => ?_)
  refine q_aload_n F 0 dX5_adds_53 rfl rfl ?_
  refine qg_X5_35 F (hM.1.2.1 12 rfl).1 hM.1.1 dX5_adds_54 ?_
  refine q_aload_n F 0 dX5_adds_57 rfl rfl ?_
  refine qg_X5_91 F hM.1.1 dX5_adds_58 ?_
  refine q_mg 4 (nI n) rfl hM hn ?_
  refine q_iconst F dX5_adds_61 hc_0 ?_
  refine q_iast F (hM.1.2.1 12 rfl).2.1 (hM.1.2.1 12 rfl).2.2 rfl hlt (by decide) dX5_adds_62 ?_
  refine q_mA 12 rfl hM hm (fun S62 hM hm => ?_)
  refine q_aload_n F 0 dX5_adds_63 rfl rfl ?_
  refine q_dup F dX5_adds_64 rfl ?_
  refine qg_X5_91 F hM.1.1 dX5_adds_65 ?_
  refine q_mg 4 (nI n) rfl hM hn ?_
  refine q_iconst F dX5_adds_68 hc_1 ?_
  refine q_iadd F dX5_adds_69 ?_
  refine q_top (v' := .int (nI (n + 1))) ?_ (congrArg Value.int (nI_1 n))
  refine qp_X5_91 F hM.1.1 dX5_adds_70 ?_
  refine q_mF 4 hM hm (fun S70 hM hm => ?_)
  exact (q_retv F hr dX5_adds_73 (Nat.le_of_ble_eq_true rfl) (Nat.le_of_ble_eq_true rfl) ⟨rfl, hM, hm⟩)

theorem nI_40 {n : Nat} (hn : n ≤ 40) (h : nI n = 40) : n = 40 := (nI_eq (by omega) (by decide)).mp h
theorem nI_20 {n : Nat} (hn : n ≤ 20) (h : nI n = 20) : n = 20 := (nI_eq (by omega) (by decide)).mp h
theorem nlt40 {n : Nat} (hn : n ≤ 40) (h : nI n = 40) : decide (n < 40) = false := by rw [nI_40 hn h]; rfl
theorem nlt20 {n : Nat} (hn : n ≤ 20) (h : nI n = 20) : decide (n < 20) = false := by rw [nI_20 hn h]; rfl
theorem ylt40 {n : Nat} (hn : n ≤ 40) (h : ¬ nI n = 40) : n < 40 := by
  rcases Nat.lt_or_ge n 40 with z | z
  · exact z
  · exact absurd (show nI n = 40 by rw [show n = 40 by omega]; rfl) h
theorem ylt20 {n : Nat} (hn : n ≤ 20) (h : ¬ nI n = 20) : n < 20 := by
  rcases Nat.lt_or_ge n 20 with z | z
  · exact z
  · exact absurd (show nI n = 20 by rw [show n = 20 by omega]; rfl) h
set_option maxHeartbeats 4000000 in
set_option maxRecDepth 100000 in
theorem c_X5_addLine {l : Launch} {g : hG} {X : va_W} {S : hS} {md : Nat} {ar : Nat → Nat} {sc : Nat → Int32} {M : Nat → Nat → Int32} (hM : mS S md ar sc M) {n : Nat} (hn : sc 4 = nI n) (hn40 : n ≤ 40) {mk key : Int32} : hMet l yX5_addLine wsX5_addLine rm_X5_addLine g X S [.ref md, .int mk, .int key] (mP2 S md ar (inR mk 0 2 && okK key) (decide (n < 40)) sc M (nI n) (scN (va_up sc 0 0) (n + 1)) (aAdd M n mk key (sc 1))) := by
  refine h_start (maxL := 3) (ret := (some .int)) (by decide) rfl (Nat.le_of_ble_eq_true rfl) ?_
  intro p e s m args below meth c F hr hinit
  have hm := mdF.rf S
  refine q_aload_n F 0 dX5_addLine_0 rfl rfl ?_
  refine q_iload_n F 1 dX5_addLine_1 rfl rfl ?_
  refine q_callS_i F (c_X5_isMark) gX5_addLine_X5_isMark rfl hd_X5_isMark ⟨Nat.le_of_ble_eq_true rfl, Nat.le_of_ble_eq_true rfl⟩ rfl rfl (Nat.le_of_ble_eq_true rfl) dX5_addLine_2 ⟨Nat.le_of_ble_eq_true rfl, Nat.le_of_ble_eq_true rfl⟩ ?_
  refine q_if_eq F 15 dX5_addLine_5 rfl (fun c5 => ?_) (fun c5 => ?_)
  · refine q_iconst F dX5_addLine_15 hc_1 ?_
    refine q_goto F 33 dX5_addLine_16 rfl ?_
    refine q_callV_gi F (c_X5_holds hM) gX5_addLine_X5_holds rfl hd_X5_holds ⟨Nat.le_of_ble_eq_true rfl, Nat.le_of_ble_eq_true rfl⟩ hM.1.1 rfl rfl rfl (Nat.le_of_ble_eq_true rfl) dX5_addLine_33 ⟨Nat.le_of_ble_eq_true rfl, Nat.le_of_ble_eq_true rfl⟩ (fun r33 S33 hp33 => ?_)
    obtain ⟨rfl, hM, hm33⟩ := hp33
    have hm := hm.trans hm33
    refine q_cz ?_
    refine q_if_ne F 41 dX5_addLine_36 rfl (fun c36 => ?_) (fun c36 => ?_)
    · exact absurd c36 (by decide)
    refine q_iconst F dX5_addLine_39 hc_0 ?_
    exact (q_reti F hr rfl dX5_addLine_40 (Nat.le_of_ble_eq_true rfl) (Nat.le_of_ble_eq_true rfl) ⟨_, rfl, hm, by first | exact Or.inl ⟨by first | (rw [b2_0.mp c5]; rfl) | (rw [b2_0.mp c12, Bool.and_false]), hM⟩ | exact Or.inr (Or.inl ⟨by rw [b2_n0 c5, b2_n0 c12]; rfl, nlt40 hn40 c25, hM⟩)⟩)
  refine q_iload_n F 2 dX5_addLine_8 rfl rfl ?_
  refine q_callS_i F (c_X5_isKey) gX5_addLine_X5_isKey rfl hd_X5_isKey ⟨Nat.le_of_ble_eq_true rfl, Nat.le_of_ble_eq_true rfl⟩ rfl rfl (Nat.le_of_ble_eq_true rfl) dX5_addLine_9 ⟨Nat.le_of_ble_eq_true rfl, Nat.le_of_ble_eq_true rfl⟩ ?_
  refine q_if_ne F 19 dX5_addLine_12 rfl (fun c12 => ?_) (fun c12 => ?_)
  · refine q_aload_n F 0 dX5_addLine_19 rfl rfl ?_
    refine qg_X5_91 F hM.1.1 dX5_addLine_20 ?_
    refine q_mg 4 (nI n) rfl hM hn ?_
    refine q_bipush (v := 40) F dX5_addLine_23 (by decide) ?_
    refine q_icmp_ne F 32 dX5_addLine_25 rfl (fun c25 => ?_) (fun c25 => ?_)
    · refine q_iconst F dX5_addLine_32 hc_0 ?_
      refine q_callV_gi F (c_X5_holds hM) gX5_addLine_X5_holds rfl hd_X5_holds ⟨Nat.le_of_ble_eq_true rfl, Nat.le_of_ble_eq_true rfl⟩ hM.1.1 rfl rfl rfl (Nat.le_of_ble_eq_true rfl) dX5_addLine_33 ⟨Nat.le_of_ble_eq_true rfl, Nat.le_of_ble_eq_true rfl⟩ (fun r33 S33 hp33 => ?_)
      obtain ⟨rfl, hM, hm33⟩ := hp33
      have hm := hm.trans hm33
      refine q_cz ?_
      refine q_if_ne F 41 dX5_addLine_36 rfl (fun c36 => ?_) (fun c36 => ?_)
      · have hlt := ylt40 hn40 c25
        refine q_aload_n F 0 dX5_addLine_41 rfl rfl ?_
        refine q_iload_n F 1 dX5_addLine_42 rfl rfl ?_
        refine q_iload_n F 2 dX5_addLine_43 rfl rfl ?_
        refine q_callV_gv F (c_X5_adds hM hn hlt) gX5_addLine_X5_adds rfl hd_X5_adds ⟨Nat.le_of_ble_eq_true rfl, Nat.le_of_ble_eq_true rfl⟩ hM.1.1 rfl rfl rfl (Nat.le_of_ble_eq_true rfl) dX5_addLine_44 ⟨Nat.le_of_ble_eq_true rfl, Nat.le_of_ble_eq_true rfl⟩ (fun S44 hp44 => ?_)
        obtain ⟨hM, hm44⟩ := hp44
        have hm := hm.trans hm44
        refine q_aload_n F 0 dX5_addLine_47 rfl rfl ?_
        refine qg_X5_91 F hM.1.1 dX5_addLine_48 ?_
        refine q_mg 4 (nI (n + 1)) rfl hM rfl ?_
        refine q_iconst F dX5_addLine_51 hc_1 ?_
        refine q_isub F dX5_addLine_52 ?_
        exact (q_reti F hr rfl dX5_addLine_53 (Nat.le_of_ble_eq_true rfl) (Nat.le_of_ble_eq_true rfl) ⟨_, rfl, hm, Or.inr (Or.inr ⟨by rw [b2_n0 c5, b2_n0 c12]; rfl, decide_eq_true hlt, nI_pred n, hM⟩)⟩)
      exact absurd c36 (by decide)
    refine q_iconst F dX5_addLine_28 hc_2 ?_
    refine q_goto F 33 dX5_addLine_29 rfl ?_
    refine q_callV_gi F (c_X5_holds hM) gX5_addLine_X5_holds rfl hd_X5_holds ⟨Nat.le_of_ble_eq_true rfl, Nat.le_of_ble_eq_true rfl⟩ hM.1.1 rfl rfl rfl (Nat.le_of_ble_eq_true rfl) dX5_addLine_33 ⟨Nat.le_of_ble_eq_true rfl, Nat.le_of_ble_eq_true rfl⟩ (fun r33 S33 hp33 => ?_)
    obtain ⟨rfl, hM, hm33⟩ := hp33
    have hm := hm.trans hm33
    refine q_cz ?_
    refine q_if_ne F 41 dX5_addLine_36 rfl (fun c36 => ?_) (fun c36 => ?_)
    · exact absurd c36 (by decide)
    refine q_iconst F dX5_addLine_39 hc_0 ?_
    exact (q_reti F hr rfl dX5_addLine_40 (Nat.le_of_ble_eq_true rfl) (Nat.le_of_ble_eq_true rfl) ⟨_, rfl, hm, by first | exact Or.inl ⟨by first | (rw [b2_0.mp c5]; rfl) | (rw [b2_0.mp c12, Bool.and_false]), hM⟩ | exact Or.inr (Or.inl ⟨by rw [b2_n0 c5, b2_n0 c12]; rfl, nlt40 hn40 c25, hM⟩)⟩)
  refine q_iconst F dX5_addLine_15 hc_1 ?_
  refine q_goto F 33 dX5_addLine_16 rfl ?_
  refine q_callV_gi F (c_X5_holds hM) gX5_addLine_X5_holds rfl hd_X5_holds ⟨Nat.le_of_ble_eq_true rfl, Nat.le_of_ble_eq_true rfl⟩ hM.1.1 rfl rfl rfl (Nat.le_of_ble_eq_true rfl) dX5_addLine_33 ⟨Nat.le_of_ble_eq_true rfl, Nat.le_of_ble_eq_true rfl⟩ (fun r33 S33 hp33 => ?_)
  obtain ⟨rfl, hM, hm33⟩ := hp33
  have hm := hm.trans hm33
  refine q_cz ?_
  refine q_if_ne F 41 dX5_addLine_36 rfl (fun c36 => ?_) (fun c36 => ?_)
  · exact absurd c36 (by decide)
  refine q_iconst F dX5_addLine_39 hc_0 ?_
  exact (q_reti F hr rfl dX5_addLine_40 (Nat.le_of_ble_eq_true rfl) (Nat.le_of_ble_eq_true rfl) ⟨_, rfl, hm, by first | exact Or.inl ⟨by first | (rw [b2_0.mp c5]; rfl) | (rw [b2_0.mp c12, Bool.and_false]), hM⟩ | exact Or.inr (Or.inl ⟨by rw [b2_n0 c5, b2_n0 c12]; rfl, nlt40 hn40 c25, hM⟩)⟩)

set_option maxHeartbeats 4000000 in
set_option maxRecDepth 100000 in
theorem c_X5_addsPattern {l : Launch} {g : hG} {X : va_W} {S : hS} {md : Nat} {ar : Nat → Nat} {sc : Nat → Int32} {M : Nat → Nat → Int32} (hM : mS S md ar sc M) {i k : Nat} {name places port den : Int32} (hi : i < 40) (h12 : M 12 i = nI k) (hk4 : k < 4) (hB : isB den) : hMet l yX5_addsPattern wsX5_addsPattern rm_X5_addsPattern g X S [.ref md, .int (nI i), .int name, .int places, .int port, .int den] (mV S md ar sc (aPat M i k name places port den)) := by
  refine h_start (maxL := 7) (ret := none) (by decide) rfl (Nat.le_of_ble_eq_true rfl) ?_
  intro p e s m args below meth c F hr hinit
  have hm := mdF.rf S
  refine q_iconst F dX5_addsPattern_0 hc_4 ?_
  refine q_iload_n F 1 dX5_addsPattern_1 rfl rfl ?_
  refine q_imul F dX5_addsPattern_2 ?_
  refine q_aload_n F 0 dX5_addsPattern_3 rfl rfl ?_
  refine qg_X5_35 F (hM.1.2.1 12 rfl).1 hM.1.1 dX5_addsPattern_4 ?_
  refine q_iload_n F 1 dX5_addsPattern_7 rfl rfl ?_
  refine q_iald F (hM.1.2.1 12 rfl).2.1 (hM.1.2.1 12 rfl).2.2 rfl hi (by decide) dX5_addsPattern_8 ?_
  refine q_ma 12 (nI k) rfl hM h12 ?_
  refine q_iadd F dX5_addsPattern_9 ?_
  refine q_top (v' := .int (nI (4 * i + k))) ?_ (congrArg Value.int (by rw [four, nI_add]))
  refine q_istore F dX5_addsPattern_10 (by decide) rfl ?_
  refine q_aload_n F 0 dX5_addsPattern_12 rfl rfl ?_
  refine qg_X5_38 F (hM.1.2.1 13 rfl).1 hM.1.1 dX5_addsPattern_13 ?_
  refine q_iload F dX5_addsPattern_16 rfl ?_
  refine q_iload_n F 2 dX5_addsPattern_18 rfl rfl ?_
  refine q_iast F (hM.1.2.1 13 rfl).2.1 (hM.1.2.1 13 rfl).2.2 rfl (show 4 * i + k < 160 by omega) (by decide) dX5_addsPattern_19 ?_
  refine q_mA 13 rfl hM hm (fun S19 hM hm => ?_)
  refine q_aload_n F 0 dX5_addsPattern_20 rfl rfl ?_
  refine qg_X5_41 F (hM.1.2.1 14 rfl).1 hM.1.1 dX5_addsPattern_21 ?_
  refine q_iload F dX5_addsPattern_24 rfl ?_
  refine q_iload_n F 3 dX5_addsPattern_26 rfl rfl ?_
  refine q_iast F (hM.1.2.1 14 rfl).2.1 (hM.1.2.1 14 rfl).2.2 rfl (show 4 * i + k < 160 by omega) (by decide) dX5_addsPattern_27 ?_
  refine q_mA 14 rfl hM hm (fun S27 hM hm => ?_)
  refine q_aload_n F 0 dX5_addsPattern_28 rfl rfl ?_
  refine qg_X5_44 F (hM.1.2.1 15 rfl).1 hM.1.1 dX5_addsPattern_29 ?_
  refine q_iload F dX5_addsPattern_32 rfl ?_
  refine q_iload F dX5_addsPattern_34 rfl ?_
  refine q_iast F (hM.1.2.1 15 rfl).2.1 (hM.1.2.1 15 rfl).2.2 rfl (show 4 * i + k < 160 by omega) (by decide) dX5_addsPattern_36 ?_
  refine q_mA 15 rfl hM hm (fun S36 hM hm => ?_)
  refine q_aload_n F 0 dX5_addsPattern_37 rfl rfl ?_
  refine qg_X5_47 F (hM.1.2.1 16 rfl).1 hM.1.1 dX5_addsPattern_38 ?_
  refine q_iload F dX5_addsPattern_41 rfl ?_
  refine q_iload F dX5_addsPattern_43 rfl ?_
  refine q_zast F hB (hM.1.2.1 16 rfl).2.1 (hM.1.2.1 16 rfl).2.2 rfl (show 4 * i + k < 160 by omega) (by decide) dX5_addsPattern_45 ?_
  refine q_mA 16 rfl hM hm (fun S45 hM hm => ?_)
  refine q_aload_n F 0 dX5_addsPattern_46 rfl rfl ?_
  refine qg_X5_35 F (hM.1.2.1 12 rfl).1 hM.1.1 dX5_addsPattern_47 ?_
  refine q_iload_n F 1 dX5_addsPattern_50 rfl rfl ?_
  refine q_dup2 F dX5_addsPattern_51 rfl rfl ?_
  refine q_iald F (hM.1.2.1 12 rfl).2.1 (hM.1.2.1 12 rfl).2.2 rfl hi (by decide) dX5_addsPattern_52 ?_
  refine q_ma 12 (nI k) rfl hM h12 ?_
  refine q_iconst F dX5_addsPattern_53 hc_1 ?_
  refine q_iadd F dX5_addsPattern_54 ?_
  refine q_top (v' := .int (nI (k + 1))) ?_ (congrArg Value.int (nI_1 k))
  refine q_iast F (hM.1.2.1 12 rfl).2.1 (hM.1.2.1 12 rfl).2.2 rfl hi (by decide) dX5_addsPattern_55 ?_
  refine q_mA 12 rfl hM hm (fun S55 hM hm => ?_)
  exact (q_retv F hr dX5_addsPattern_56 (Nat.le_of_ble_eq_true rfl) (Nat.le_of_ble_eq_true rfl) ⟨rfl, hM, hm⟩)

theorem aPat_12s {M : Nat → Nat → Int32} {i k : Nat} {name places port den : Int32} : aPat M i k name places port den 12 i = nI (k + 1) := by rw [aPat_12, if_pos rfl]
set_option maxHeartbeats 4000000 in
set_option maxRecDepth 100000 in
theorem c_X5_addPattern {l : Launch} {g : hG} {X : va_W} {S : hS} {md : Nat} {ar : Nat → Nat} {sc : Nat → Int32} {M : Nat → Nat → Int32} (hM : mS S md ar sc M) {n : Nat} (hn : sc 4 = nI n) (hn40 : n ≤ 40) (hsz : ∀ i, i < n → ∃ k, k ≤ 4 ∧ M 12 i = nI k) {v name places port den : Int32} (hB : isB den) : hMet l yX5_addPattern wsX5_addPattern rm_X5_addPattern g X S [.ref md, .int v, .int name, .int places, .int port, .int den] (mP3 S md ar (inL v n) (okNP name port && inR places 0 15) (okA M v.toNatClampNeg) sc M (nI (sz M v.toNatClampNeg + 1)) (va_up sc 0 0) (aPat M v.toNatClampNeg (sz M v.toNatClampNeg) name places port den)) := by
  refine h_start (maxL := 8) (ret := (some .int)) (by decide) rfl (Nat.le_of_ble_eq_true rfl) ?_
  intro p e s m args below meth c F hr hinit
  have hm := mdF.rf S
  refine q_aload_n F 0 dX5_addPattern_0 rfl rfl ?_
  refine q_iload_n F 1 dX5_addPattern_1 rfl rfl ?_
  refine q_callV_i F (c_X5_isLine hM hn hn40) gX5_addPattern_X5_isLine rfl hd_X5_isLine ⟨Nat.le_of_ble_eq_true rfl, Nat.le_of_ble_eq_true rfl⟩ hM.1.1 rfl rfl rfl (Nat.le_of_ble_eq_true rfl) dX5_addPattern_2 ⟨Nat.le_of_ble_eq_true rfl, Nat.le_of_ble_eq_true rfl⟩ ?_
  refine q_istore F dX5_addPattern_5 (by decide) rfl ?_
  refine q_iload_n F 2 dX5_addPattern_7 rfl rfl ?_
  refine q_callS_i F (c_X5_isName) gX5_addPattern_X5_isName rfl hd_X5_isName ⟨Nat.le_of_ble_eq_true rfl, Nat.le_of_ble_eq_true rfl⟩ rfl rfl (Nat.le_of_ble_eq_true rfl) dX5_addPattern_8 ⟨Nat.le_of_ble_eq_true rfl, Nat.le_of_ble_eq_true rfl⟩ ?_
  refine q_if_eq F 36 dX5_addPattern_11 rfl (fun c11 => ?_) (fun c11 => ?_)
  · refine q_iconst F dX5_addPattern_36 hc_0 ?_
    refine q_istore F dX5_addPattern_37 (by decide) rfl ?_
    refine q_aload_n F 0 dX5_addPattern_39 rfl rfl ?_
    refine q_iload F dX5_addPattern_40 rfl ?_
    refine q_if_ne F 49 dX5_addPattern_42 rfl (fun c42 => ?_) (fun c42 => ?_)
    · refine q_iload F dX5_addPattern_49 rfl ?_
      refine q_if_ne F 58 dX5_addPattern_51 rfl (fun c51 => ?_) (fun c51 => ?_)
      · exact absurd c51 (by decide)
      refine q_iconst F dX5_addPattern_54 hc_2 ?_
      refine q_goto F 83 dX5_addPattern_55 rfl ?_
      refine q_callV_gi F (c_X5_holds hM) gX5_addPattern_X5_holds rfl hd_X5_holds ⟨Nat.le_of_ble_eq_true rfl, Nat.le_of_ble_eq_true rfl⟩ hM.1.1 rfl rfl rfl (Nat.le_of_ble_eq_true rfl) dX5_addPattern_83 ⟨Nat.le_of_ble_eq_true rfl, Nat.le_of_ble_eq_true rfl⟩ (fun r83 S83 hp83 => ?_)
      obtain ⟨rfl, hM, hm83⟩ := hp83
      have hm := hm.trans hm83
      refine q_cz ?_
      refine q_if_ne F 91 dX5_addPattern_86 rfl (fun c86 => ?_) (fun c86 => ?_)
      · exact absurd c86 (by decide)
      refine q_iconst F dX5_addPattern_89 hc_0 ?_
      exact (q_reti F hr rfl dX5_addPattern_90 (Nat.le_of_ble_eq_true rfl) (Nat.le_of_ble_eq_true rfl) ⟨_, rfl, hm, by first | exact Or.inl ⟨b2_0.mp c42, hM⟩ | exact Or.inr (Or.inl ⟨b2_n0 c42, by unfold okNP; first | (rw [b2_0.mp c11]; rfl) | (rw [b2_0.mp c21, Bool.and_false]) | (rw [b2_0.mp c29, Bool.and_false]; rfl), hM⟩) | exact Or.inr (Or.inr (Or.inl ⟨b2_n0 c42, (by unfold okNP; rw [b2_n0 c11, b2_n0 c21, b2_n0 c29]; rfl), by unfold okA; rw [hszj]; first | (rw [decide_eq_false c65]; rfl) | (rw [decide_eq_false (fun z : k < 4 => absurd z (by rw [show k = 4 from (nI_eq (by omega) (by decide)).mp c75]; exact Nat.lt_irrefl 4)), Bool.and_false]), hM⟩))⟩)
    refine q_iconst F dX5_addPattern_45 hc_1 ?_
    refine q_goto F 83 dX5_addPattern_46 rfl ?_
    refine q_callV_gi F (c_X5_holds hM) gX5_addPattern_X5_holds rfl hd_X5_holds ⟨Nat.le_of_ble_eq_true rfl, Nat.le_of_ble_eq_true rfl⟩ hM.1.1 rfl rfl rfl (Nat.le_of_ble_eq_true rfl) dX5_addPattern_83 ⟨Nat.le_of_ble_eq_true rfl, Nat.le_of_ble_eq_true rfl⟩ (fun r83 S83 hp83 => ?_)
    obtain ⟨rfl, hM, hm83⟩ := hp83
    have hm := hm.trans hm83
    refine q_cz ?_
    refine q_if_ne F 91 dX5_addPattern_86 rfl (fun c86 => ?_) (fun c86 => ?_)
    · exact absurd c86 (by decide)
    refine q_iconst F dX5_addPattern_89 hc_0 ?_
    exact (q_reti F hr rfl dX5_addPattern_90 (Nat.le_of_ble_eq_true rfl) (Nat.le_of_ble_eq_true rfl) ⟨_, rfl, hm, by first | exact Or.inl ⟨b2_0.mp c42, hM⟩ | exact Or.inr (Or.inl ⟨b2_n0 c42, by unfold okNP; first | (rw [b2_0.mp c11]; rfl) | (rw [b2_0.mp c21, Bool.and_false]) | (rw [b2_0.mp c29, Bool.and_false]; rfl), hM⟩) | exact Or.inr (Or.inr (Or.inl ⟨b2_n0 c42, (by unfold okNP; rw [b2_n0 c11, b2_n0 c21, b2_n0 c29]; rfl), by unfold okA; rw [hszj]; first | (rw [decide_eq_false c65]; rfl) | (rw [decide_eq_false (fun z : k < 4 => absurd z (by rw [show k = 4 from (nI_eq (by omega) (by decide)).mp c75]; exact Nat.lt_irrefl 4)), Bool.and_false]), hM⟩))⟩)
  refine q_iload_n F 3 dX5_addPattern_14 rfl rfl ?_
  refine q_iconst F dX5_addPattern_15 hc_0 ?_
  refine q_bipush (v := 15) F dX5_addPattern_16 (by decide) ?_
  refine q_callS_i F (c_X5_isIn) gX5_addPattern_X5_isIn rfl hd_X5_isIn ⟨Nat.le_of_ble_eq_true rfl, Nat.le_of_ble_eq_true rfl⟩ rfl rfl (Nat.le_of_ble_eq_true rfl) dX5_addPattern_18 ⟨Nat.le_of_ble_eq_true rfl, Nat.le_of_ble_eq_true rfl⟩ ?_
  refine q_if_eq F 36 dX5_addPattern_21 rfl (fun c21 => ?_) (fun c21 => ?_)
  · refine q_iconst F dX5_addPattern_36 hc_0 ?_
    refine q_istore F dX5_addPattern_37 (by decide) rfl ?_
    refine q_aload_n F 0 dX5_addPattern_39 rfl rfl ?_
    refine q_iload F dX5_addPattern_40 rfl ?_
    refine q_if_ne F 49 dX5_addPattern_42 rfl (fun c42 => ?_) (fun c42 => ?_)
    · refine q_iload F dX5_addPattern_49 rfl ?_
      refine q_if_ne F 58 dX5_addPattern_51 rfl (fun c51 => ?_) (fun c51 => ?_)
      · exact absurd c51 (by decide)
      refine q_iconst F dX5_addPattern_54 hc_2 ?_
      refine q_goto F 83 dX5_addPattern_55 rfl ?_
      refine q_callV_gi F (c_X5_holds hM) gX5_addPattern_X5_holds rfl hd_X5_holds ⟨Nat.le_of_ble_eq_true rfl, Nat.le_of_ble_eq_true rfl⟩ hM.1.1 rfl rfl rfl (Nat.le_of_ble_eq_true rfl) dX5_addPattern_83 ⟨Nat.le_of_ble_eq_true rfl, Nat.le_of_ble_eq_true rfl⟩ (fun r83 S83 hp83 => ?_)
      obtain ⟨rfl, hM, hm83⟩ := hp83
      have hm := hm.trans hm83
      refine q_cz ?_
      refine q_if_ne F 91 dX5_addPattern_86 rfl (fun c86 => ?_) (fun c86 => ?_)
      · exact absurd c86 (by decide)
      refine q_iconst F dX5_addPattern_89 hc_0 ?_
      exact (q_reti F hr rfl dX5_addPattern_90 (Nat.le_of_ble_eq_true rfl) (Nat.le_of_ble_eq_true rfl) ⟨_, rfl, hm, by first | exact Or.inl ⟨b2_0.mp c42, hM⟩ | exact Or.inr (Or.inl ⟨b2_n0 c42, by unfold okNP; first | (rw [b2_0.mp c11]; rfl) | (rw [b2_0.mp c21, Bool.and_false]) | (rw [b2_0.mp c29, Bool.and_false]; rfl), hM⟩) | exact Or.inr (Or.inr (Or.inl ⟨b2_n0 c42, (by unfold okNP; rw [b2_n0 c11, b2_n0 c21, b2_n0 c29]; rfl), by unfold okA; rw [hszj]; first | (rw [decide_eq_false c65]; rfl) | (rw [decide_eq_false (fun z : k < 4 => absurd z (by rw [show k = 4 from (nI_eq (by omega) (by decide)).mp c75]; exact Nat.lt_irrefl 4)), Bool.and_false]), hM⟩))⟩)
    refine q_iconst F dX5_addPattern_45 hc_1 ?_
    refine q_goto F 83 dX5_addPattern_46 rfl ?_
    refine q_callV_gi F (c_X5_holds hM) gX5_addPattern_X5_holds rfl hd_X5_holds ⟨Nat.le_of_ble_eq_true rfl, Nat.le_of_ble_eq_true rfl⟩ hM.1.1 rfl rfl rfl (Nat.le_of_ble_eq_true rfl) dX5_addPattern_83 ⟨Nat.le_of_ble_eq_true rfl, Nat.le_of_ble_eq_true rfl⟩ (fun r83 S83 hp83 => ?_)
    obtain ⟨rfl, hM, hm83⟩ := hp83
    have hm := hm.trans hm83
    refine q_cz ?_
    refine q_if_ne F 91 dX5_addPattern_86 rfl (fun c86 => ?_) (fun c86 => ?_)
    · exact absurd c86 (by decide)
    refine q_iconst F dX5_addPattern_89 hc_0 ?_
    exact (q_reti F hr rfl dX5_addPattern_90 (Nat.le_of_ble_eq_true rfl) (Nat.le_of_ble_eq_true rfl) ⟨_, rfl, hm, by first | exact Or.inl ⟨b2_0.mp c42, hM⟩ | exact Or.inr (Or.inl ⟨b2_n0 c42, by unfold okNP; first | (rw [b2_0.mp c11]; rfl) | (rw [b2_0.mp c21, Bool.and_false]) | (rw [b2_0.mp c29, Bool.and_false]; rfl), hM⟩) | exact Or.inr (Or.inr (Or.inl ⟨b2_n0 c42, (by unfold okNP; rw [b2_n0 c11, b2_n0 c21, b2_n0 c29]; rfl), by unfold okA; rw [hszj]; first | (rw [decide_eq_false c65]; rfl) | (rw [decide_eq_false (fun z : k < 4 => absurd z (by rw [show k = 4 from (nI_eq (by omega) (by decide)).mp c75]; exact Nat.lt_irrefl 4)), Bool.and_false]), hM⟩))⟩)
  refine q_iload F dX5_addPattern_24 rfl ?_
  refine q_callS_i F (c_X5_isPort) gX5_addPattern_X5_isPort rfl hd_X5_isPort ⟨Nat.le_of_ble_eq_true rfl, Nat.le_of_ble_eq_true rfl⟩ rfl rfl (Nat.le_of_ble_eq_true rfl) dX5_addPattern_26 ⟨Nat.le_of_ble_eq_true rfl, Nat.le_of_ble_eq_true rfl⟩ ?_
  refine q_if_eq F 36 dX5_addPattern_29 rfl (fun c29 => ?_) (fun c29 => ?_)
  · refine q_iconst F dX5_addPattern_36 hc_0 ?_
    refine q_istore F dX5_addPattern_37 (by decide) rfl ?_
    refine q_aload_n F 0 dX5_addPattern_39 rfl rfl ?_
    refine q_iload F dX5_addPattern_40 rfl ?_
    refine q_if_ne F 49 dX5_addPattern_42 rfl (fun c42 => ?_) (fun c42 => ?_)
    · refine q_iload F dX5_addPattern_49 rfl ?_
      refine q_if_ne F 58 dX5_addPattern_51 rfl (fun c51 => ?_) (fun c51 => ?_)
      · exact absurd c51 (by decide)
      refine q_iconst F dX5_addPattern_54 hc_2 ?_
      refine q_goto F 83 dX5_addPattern_55 rfl ?_
      refine q_callV_gi F (c_X5_holds hM) gX5_addPattern_X5_holds rfl hd_X5_holds ⟨Nat.le_of_ble_eq_true rfl, Nat.le_of_ble_eq_true rfl⟩ hM.1.1 rfl rfl rfl (Nat.le_of_ble_eq_true rfl) dX5_addPattern_83 ⟨Nat.le_of_ble_eq_true rfl, Nat.le_of_ble_eq_true rfl⟩ (fun r83 S83 hp83 => ?_)
      obtain ⟨rfl, hM, hm83⟩ := hp83
      have hm := hm.trans hm83
      refine q_cz ?_
      refine q_if_ne F 91 dX5_addPattern_86 rfl (fun c86 => ?_) (fun c86 => ?_)
      · exact absurd c86 (by decide)
      refine q_iconst F dX5_addPattern_89 hc_0 ?_
      exact (q_reti F hr rfl dX5_addPattern_90 (Nat.le_of_ble_eq_true rfl) (Nat.le_of_ble_eq_true rfl) ⟨_, rfl, hm, by first | exact Or.inl ⟨b2_0.mp c42, hM⟩ | exact Or.inr (Or.inl ⟨b2_n0 c42, by unfold okNP; first | (rw [b2_0.mp c11]; rfl) | (rw [b2_0.mp c21, Bool.and_false]) | (rw [b2_0.mp c29, Bool.and_false]; rfl), hM⟩) | exact Or.inr (Or.inr (Or.inl ⟨b2_n0 c42, (by unfold okNP; rw [b2_n0 c11, b2_n0 c21, b2_n0 c29]; rfl), by unfold okA; rw [hszj]; first | (rw [decide_eq_false c65]; rfl) | (rw [decide_eq_false (fun z : k < 4 => absurd z (by rw [show k = 4 from (nI_eq (by omega) (by decide)).mp c75]; exact Nat.lt_irrefl 4)), Bool.and_false]), hM⟩))⟩)
    refine q_iconst F dX5_addPattern_45 hc_1 ?_
    refine q_goto F 83 dX5_addPattern_46 rfl ?_
    refine q_callV_gi F (c_X5_holds hM) gX5_addPattern_X5_holds rfl hd_X5_holds ⟨Nat.le_of_ble_eq_true rfl, Nat.le_of_ble_eq_true rfl⟩ hM.1.1 rfl rfl rfl (Nat.le_of_ble_eq_true rfl) dX5_addPattern_83 ⟨Nat.le_of_ble_eq_true rfl, Nat.le_of_ble_eq_true rfl⟩ (fun r83 S83 hp83 => ?_)
    obtain ⟨rfl, hM, hm83⟩ := hp83
    have hm := hm.trans hm83
    refine q_cz ?_
    refine q_if_ne F 91 dX5_addPattern_86 rfl (fun c86 => ?_) (fun c86 => ?_)
    · exact absurd c86 (by decide)
    refine q_iconst F dX5_addPattern_89 hc_0 ?_
    exact (q_reti F hr rfl dX5_addPattern_90 (Nat.le_of_ble_eq_true rfl) (Nat.le_of_ble_eq_true rfl) ⟨_, rfl, hm, by first | exact Or.inl ⟨b2_0.mp c42, hM⟩ | exact Or.inr (Or.inl ⟨b2_n0 c42, by unfold okNP; first | (rw [b2_0.mp c11]; rfl) | (rw [b2_0.mp c21, Bool.and_false]) | (rw [b2_0.mp c29, Bool.and_false]; rfl), hM⟩) | exact Or.inr (Or.inr (Or.inl ⟨b2_n0 c42, (by unfold okNP; rw [b2_n0 c11, b2_n0 c21, b2_n0 c29]; rfl), by unfold okA; rw [hszj]; first | (rw [decide_eq_false c65]; rfl) | (rw [decide_eq_false (fun z : k < 4 => absurd z (by rw [show k = 4 from (nI_eq (by omega) (by decide)).mp c75]; exact Nat.lt_irrefl 4)), Bool.and_false]), hM⟩))⟩)
  refine q_iconst F dX5_addPattern_32 hc_1 ?_
  refine q_goto F 37 dX5_addPattern_33 rfl ?_
  refine q_istore F dX5_addPattern_37 (by decide) rfl ?_
  refine q_aload_n F 0 dX5_addPattern_39 rfl rfl ?_
  refine q_iload F dX5_addPattern_40 rfl ?_
  refine q_if_ne F 49 dX5_addPattern_42 rfl (fun c42 => ?_) (fun c42 => ?_)
  · refine q_iload F dX5_addPattern_49 rfl ?_
    refine q_if_ne F 58 dX5_addPattern_51 rfl (fun c51 => ?_) (fun c51 => ?_)
    · obtain ⟨j, hj, rfl⟩ := inL_get (b2_n0 c42) (by omega)
      have hcl : (nI j).toNatClampNeg = j := nI_clamp (by omega)
      rw [hcl]
      have hi40 : j < 40 := by omega
      obtain ⟨k, hk4, h12⟩ := hsz j hj
      have hszj : sz M j = k := by unfold sz; rw [h12]; exact nI_clamp (by omega)
      refine q_aload_n F 0 dX5_addPattern_58 rfl rfl ?_
      refine qg_X5_26 F (hM.1.2.1 9 rfl).1 hM.1.1 dX5_addPattern_59 ?_
      refine q_iload_n F 1 dX5_addPattern_62 rfl rfl ?_
      refine q_iald F (hM.1.2.1 9 rfl).2.1 (hM.1.2.1 9 rfl).2.2 rfl hi40 (by decide) dX5_addPattern_63 ?_
      refine q_ma 9 (_) rfl hM rfl ?_
      refine q_iconst F dX5_addPattern_64 hc_m1 ?_
      refine q_icmp_ne F 78 dX5_addPattern_65 rfl (fun c65 => ?_) (fun c65 => ?_)
      · refine q_iconst F dX5_addPattern_78 hc_3 ?_
        refine q_goto F 83 dX5_addPattern_79 rfl ?_
        refine q_callV_gi F (c_X5_holds hM) gX5_addPattern_X5_holds rfl hd_X5_holds ⟨Nat.le_of_ble_eq_true rfl, Nat.le_of_ble_eq_true rfl⟩ hM.1.1 rfl rfl rfl (Nat.le_of_ble_eq_true rfl) dX5_addPattern_83 ⟨Nat.le_of_ble_eq_true rfl, Nat.le_of_ble_eq_true rfl⟩ (fun r83 S83 hp83 => ?_)
        obtain ⟨rfl, hM, hm83⟩ := hp83
        have hm := hm.trans hm83
        refine q_cz ?_
        refine q_if_ne F 91 dX5_addPattern_86 rfl (fun c86 => ?_) (fun c86 => ?_)
        · exact absurd c86 (by decide)
        refine q_iconst F dX5_addPattern_89 hc_0 ?_
        exact (q_reti F hr rfl dX5_addPattern_90 (Nat.le_of_ble_eq_true rfl) (Nat.le_of_ble_eq_true rfl) ⟨_, rfl, hm, by first | exact Or.inl ⟨b2_0.mp c42, hM⟩ | exact Or.inr (Or.inl ⟨b2_n0 c42, by unfold okNP; first | (rw [b2_0.mp c11]; rfl) | (rw [b2_0.mp c21, Bool.and_false]) | (rw [b2_0.mp c29, Bool.and_false]; rfl), hM⟩) | exact Or.inr (Or.inr (Or.inl ⟨b2_n0 c42, (by unfold okNP; rw [b2_n0 c11, b2_n0 c21, b2_n0 c29]; rfl), by unfold okA; rw [hszj]; first | (rw [decide_eq_false c65]; rfl) | (rw [decide_eq_false (fun z : k < 4 => absurd z (by rw [show k = 4 from (nI_eq (by omega) (by decide)).mp c75]; exact Nat.lt_irrefl 4)), Bool.and_false]), hM⟩))⟩)
      refine q_aload_n F 0 dX5_addPattern_68 rfl rfl ?_
      refine qg_X5_35 F (hM.1.2.1 12 rfl).1 hM.1.1 dX5_addPattern_69 ?_
      refine q_iload_n F 1 dX5_addPattern_72 rfl rfl ?_
      refine q_iald F (hM.1.2.1 12 rfl).2.1 (hM.1.2.1 12 rfl).2.2 rfl hi40 (by decide) dX5_addPattern_73 ?_
      refine q_ma 12 (nI k) rfl hM h12 ?_
      refine q_iconst F dX5_addPattern_74 hc_4 ?_
      refine q_icmp_ne F 82 dX5_addPattern_75 rfl (fun c75 => ?_) (fun c75 => ?_)
      · refine q_iconst F dX5_addPattern_82 hc_0 ?_
        refine q_callV_gi F (c_X5_holds hM) gX5_addPattern_X5_holds rfl hd_X5_holds ⟨Nat.le_of_ble_eq_true rfl, Nat.le_of_ble_eq_true rfl⟩ hM.1.1 rfl rfl rfl (Nat.le_of_ble_eq_true rfl) dX5_addPattern_83 ⟨Nat.le_of_ble_eq_true rfl, Nat.le_of_ble_eq_true rfl⟩ (fun r83 S83 hp83 => ?_)
        obtain ⟨rfl, hM, hm83⟩ := hp83
        have hm := hm.trans hm83
        refine q_cz ?_
        refine q_if_ne F 91 dX5_addPattern_86 rfl (fun c86 => ?_) (fun c86 => ?_)
        · have hk : k < 4 := by
            rcases Nat.lt_or_ge k 4 with z | z
            · exact z
            · exact absurd (show nI k = 4 by rw [show k = 4 by omega]; rfl) c75
          refine q_aload_n F 0 dX5_addPattern_91 rfl rfl ?_
          refine q_iload_n F 1 dX5_addPattern_92 rfl rfl ?_
          refine q_iload_n F 2 dX5_addPattern_93 rfl rfl ?_
          refine q_iload_n F 3 dX5_addPattern_94 rfl rfl ?_
          refine q_iload F dX5_addPattern_95 rfl ?_
          refine q_iload F dX5_addPattern_97 rfl ?_
          refine q_callV_gv F (c_X5_addsPattern hM hi40 h12 hk hB) gX5_addPattern_X5_addsPattern rfl hd_X5_addsPattern ⟨Nat.le_of_ble_eq_true rfl, Nat.le_of_ble_eq_true rfl⟩ hM.1.1 rfl rfl rfl (Nat.le_of_ble_eq_true rfl) dX5_addPattern_99 ⟨Nat.le_of_ble_eq_true rfl, Nat.le_of_ble_eq_true rfl⟩ (fun S99 hp99 => ?_)
          obtain ⟨hM, hm99⟩ := hp99
          have hm := hm.trans hm99
          refine q_aload_n F 0 dX5_addPattern_102 rfl rfl ?_
          refine qg_X5_35 F (hM.1.2.1 12 rfl).1 hM.1.1 dX5_addPattern_103 ?_
          refine q_iload_n F 1 dX5_addPattern_106 rfl rfl ?_
          refine q_iald F (hM.1.2.1 12 rfl).2.1 (hM.1.2.1 12 rfl).2.2 rfl hi40 (by decide) dX5_addPattern_107 ?_
          refine q_ma 12 (nI (k + 1)) rfl hM (aPat_12s) ?_
          exact (q_reti F hr rfl dX5_addPattern_108 (Nat.le_of_ble_eq_true rfl) (Nat.le_of_ble_eq_true rfl) ⟨_, rfl, hm, Or.inr (Or.inr (Or.inr ⟨b2_n0 c42, (by unfold okNP; rw [b2_n0 c11, b2_n0 c21, b2_n0 c29]; rfl), by unfold okA; rw [hszj, decide_eq_true c65, decide_eq_true hk]; rfl, by rw [hszj], by rw [hszj]; exact hM⟩))⟩)
        exact absurd c86 (by decide)
      refine q_iconst F dX5_addPattern_78 hc_3 ?_
      refine q_goto F 83 dX5_addPattern_79 rfl ?_
      refine q_callV_gi F (c_X5_holds hM) gX5_addPattern_X5_holds rfl hd_X5_holds ⟨Nat.le_of_ble_eq_true rfl, Nat.le_of_ble_eq_true rfl⟩ hM.1.1 rfl rfl rfl (Nat.le_of_ble_eq_true rfl) dX5_addPattern_83 ⟨Nat.le_of_ble_eq_true rfl, Nat.le_of_ble_eq_true rfl⟩ (fun r83 S83 hp83 => ?_)
      obtain ⟨rfl, hM, hm83⟩ := hp83
      have hm := hm.trans hm83
      refine q_cz ?_
      refine q_if_ne F 91 dX5_addPattern_86 rfl (fun c86 => ?_) (fun c86 => ?_)
      · exact absurd c86 (by decide)
      refine q_iconst F dX5_addPattern_89 hc_0 ?_
      exact (q_reti F hr rfl dX5_addPattern_90 (Nat.le_of_ble_eq_true rfl) (Nat.le_of_ble_eq_true rfl) ⟨_, rfl, hm, by first | exact Or.inl ⟨b2_0.mp c42, hM⟩ | exact Or.inr (Or.inl ⟨b2_n0 c42, by unfold okNP; first | (rw [b2_0.mp c11]; rfl) | (rw [b2_0.mp c21, Bool.and_false]) | (rw [b2_0.mp c29, Bool.and_false]; rfl), hM⟩) | exact Or.inr (Or.inr (Or.inl ⟨b2_n0 c42, (by unfold okNP; rw [b2_n0 c11, b2_n0 c21, b2_n0 c29]; rfl), by unfold okA; rw [hszj]; first | (rw [decide_eq_false c65]; rfl) | (rw [decide_eq_false (fun z : k < 4 => absurd z (by rw [show k = 4 from (nI_eq (by omega) (by decide)).mp c75]; exact Nat.lt_irrefl 4)), Bool.and_false]), hM⟩))⟩)
    exact absurd c51 (by decide)
  refine q_iconst F dX5_addPattern_45 hc_1 ?_
  refine q_goto F 83 dX5_addPattern_46 rfl ?_
  refine q_callV_gi F (c_X5_holds hM) gX5_addPattern_X5_holds rfl hd_X5_holds ⟨Nat.le_of_ble_eq_true rfl, Nat.le_of_ble_eq_true rfl⟩ hM.1.1 rfl rfl rfl (Nat.le_of_ble_eq_true rfl) dX5_addPattern_83 ⟨Nat.le_of_ble_eq_true rfl, Nat.le_of_ble_eq_true rfl⟩ (fun r83 S83 hp83 => ?_)
  obtain ⟨rfl, hM, hm83⟩ := hp83
  have hm := hm.trans hm83
  refine q_cz ?_
  refine q_if_ne F 91 dX5_addPattern_86 rfl (fun c86 => ?_) (fun c86 => ?_)
  · exact absurd c86 (by decide)
  refine q_iconst F dX5_addPattern_89 hc_0 ?_
  exact (q_reti F hr rfl dX5_addPattern_90 (Nat.le_of_ble_eq_true rfl) (Nat.le_of_ble_eq_true rfl) ⟨_, rfl, hm, by first | exact Or.inl ⟨b2_0.mp c42, hM⟩ | exact Or.inr (Or.inl ⟨b2_n0 c42, by unfold okNP; first | (rw [b2_0.mp c11]; rfl) | (rw [b2_0.mp c21, Bool.and_false]) | (rw [b2_0.mp c29, Bool.and_false]; rfl), hM⟩) | exact Or.inr (Or.inr (Or.inl ⟨b2_n0 c42, (by unfold okNP; rw [b2_n0 c11, b2_n0 c21, b2_n0 c29]; rfl), by unfold okA; rw [hszj]; first | (rw [decide_eq_false c65]; rfl) | (rw [decide_eq_false (fun z : k < 4 => absurd z (by rw [show k = 4 from (nI_eq (by omega) (by decide)).mp c75]; exact Nat.lt_irrefl 4)), Bool.and_false]), hM⟩))⟩)

set_option maxHeartbeats 4000000 in
set_option maxRecDepth 100000 in
theorem c_X5_addsHashed {l : Launch} {g : hG} {X : va_W} {S : hS} {md : Nat} {ar : Nat → Nat} {sc : Nat → Int32} {M : Nat → Nat → Int32} (hM : mS S md ar sc M) {n : Nat} (hn : sc 4 = nI n) (hlt : n < 40) {mk key name port salt : Int32} : hMet l yX5_addsHashed wsX5_addsHashed rm_X5_addsHashed g X S [.ref md, .int mk, .int key, .int name, .int port, .int salt] (mV S md ar (scN sc (n + 1)) (aHash (aAdd M n mk key (sc 1)) n name port salt)) := by
  refine h_start (maxL := 6) (ret := none) (by decide) rfl (Nat.le_of_ble_eq_true rfl) ?_
  intro p e s m args below meth c F hr hinit
  have hm := mdF.rf S
  refine q_aload_n F 0 dX5_addsHashed_0 rfl rfl ?_
  refine q_iload_n F 1 dX5_addsHashed_1 rfl rfl ?_
  refine q_iload_n F 2 dX5_addsHashed_2 rfl rfl ?_
  refine q_callV_gv F (c_X5_adds hM hn hlt) gX5_addsHashed_X5_adds rfl hd_X5_adds ⟨Nat.le_of_ble_eq_true rfl, Nat.le_of_ble_eq_true rfl⟩ hM.1.1 rfl rfl rfl (Nat.le_of_ble_eq_true rfl) dX5_addsHashed_3 ⟨Nat.le_of_ble_eq_true rfl, Nat.le_of_ble_eq_true rfl⟩ (fun S3 hp3 => ?_)
  obtain ⟨hM, hm3⟩ := hp3
  have hm := hm.trans hm3
  refine q_aload_n F 0 dX5_addsHashed_6 rfl rfl ?_
  refine qg_X5_26 F (hM.1.2.1 9 rfl).1 hM.1.1 dX5_addsHashed_7 ?_
  refine q_aload_n F 0 dX5_addsHashed_10 rfl rfl ?_
  refine qg_X5_91 F hM.1.1 dX5_addsHashed_11 ?_
  refine q_mg 4 (nI (n + 1)) rfl hM rfl ?_
  refine q_iconst F dX5_addsHashed_14 hc_1 ?_
  refine q_isub F dX5_addsHashed_15 ?_
  refine q_top (v' := .int (nI n)) ?_ (congrArg Value.int (nI_pred n))
  refine q_iload F dX5_addsHashed_16 rfl ?_
  refine q_iast F (hM.1.2.1 9 rfl).2.1 (hM.1.2.1 9 rfl).2.2 rfl hlt (by decide) dX5_addsHashed_18 ?_
  refine q_mA 9 rfl hM hm (fun S18 hM hm => ?_)
  refine q_aload_n F 0 dX5_addsHashed_19 rfl rfl ?_
  refine qg_X5_29 F (hM.1.2.1 10 rfl).1 hM.1.1 dX5_addsHashed_20 ?_
  refine q_aload_n F 0 dX5_addsHashed_23 rfl rfl ?_
  refine qg_X5_91 F hM.1.1 dX5_addsHashed_24 ?_
  refine q_mg 4 (nI (n + 1)) rfl hM rfl ?_
  refine q_iconst F dX5_addsHashed_27 hc_1 ?_
  refine q_isub F dX5_addsHashed_28 ?_
  refine q_top (v' := .int (nI n)) ?_ (congrArg Value.int (nI_pred n))
  refine q_iload_n F 3 dX5_addsHashed_29 rfl rfl ?_
  refine q_iload F dX5_addsHashed_30 rfl ?_
  refine q_callS_i F (c_X5_hash) gX5_addsHashed_X5_hash rfl hd_X5_hash ⟨Nat.le_of_ble_eq_true rfl, Nat.le_of_ble_eq_true rfl⟩ rfl rfl (Nat.le_of_ble_eq_true rfl) dX5_addsHashed_32 ⟨Nat.le_of_ble_eq_true rfl, Nat.le_of_ble_eq_true rfl⟩ ?_
  refine q_iast F (hM.1.2.1 10 rfl).2.1 (hM.1.2.1 10 rfl).2.2 rfl hlt (by decide) dX5_addsHashed_35 ?_
  refine q_mA 10 rfl hM hm (fun S35 hM hm => ?_)
  refine q_aload_n F 0 dX5_addsHashed_36 rfl rfl ?_
  refine qg_X5_32 F (hM.1.2.1 11 rfl).1 hM.1.1 dX5_addsHashed_37 ?_
  refine q_aload_n F 0 dX5_addsHashed_40 rfl rfl ?_
  refine qg_X5_91 F hM.1.1 dX5_addsHashed_41 ?_
  refine q_mg 4 (nI (n + 1)) rfl hM rfl ?_
  refine q_iconst F dX5_addsHashed_44 hc_1 ?_
  refine q_isub F dX5_addsHashed_45 ?_
  refine q_top (v' := .int (nI n)) ?_ (congrArg Value.int (nI_pred n))
  refine q_iload F dX5_addsHashed_46 rfl ?_
  refine q_iast F (hM.1.2.1 11 rfl).2.1 (hM.1.2.1 11 rfl).2.2 rfl hlt (by decide) dX5_addsHashed_48 ?_
  refine q_mA 11 rfl hM hm (fun S48 hM hm => ?_)
  exact (q_retv F hr dX5_addsHashed_49 (Nat.le_of_ble_eq_true rfl) (Nat.le_of_ble_eq_true rfl) ⟨rfl, hM, hm⟩)

set_option maxHeartbeats 4000000 in
set_option maxRecDepth 100000 in
theorem c_X5_addHashed {l : Launch} {g : hG} {X : va_W} {S : hS} {md : Nat} {ar : Nat → Nat} {sc : Nat → Int32} {M : Nat → Nat → Int32} (hM : mS S md ar sc M) {n : Nat} (hn : sc 4 = nI n) (hn40 : n ≤ 40) {mk key name port salt : Int32} : hMet l yX5_addHashed wsX5_addHashed rm_X5_addHashed g X S [.ref md, .int mk, .int key, .int name, .int port, .int salt] (mP2 S md ar (inR mk 0 2 && okK key && okNP name port && inR salt 0 99) (decide (n < 40)) sc M (nI n) (scN (va_up sc 0 0) (n + 1)) (aHash (aAdd M n mk key (sc 1)) n name port salt)) := by
  refine h_start (maxL := 7) (ret := (some .int)) (by decide) rfl (Nat.le_of_ble_eq_true rfl) ?_
  intro p e s m args below meth c F hr hinit
  have hm := mdF.rf S
  refine q_iload_n F 1 dX5_addHashed_0 rfl rfl ?_
  refine q_callS_i F (c_X5_isMark) gX5_addHashed_X5_isMark rfl hd_X5_isMark ⟨Nat.le_of_ble_eq_true rfl, Nat.le_of_ble_eq_true rfl⟩ rfl rfl (Nat.le_of_ble_eq_true rfl) dX5_addHashed_1 ⟨Nat.le_of_ble_eq_true rfl, Nat.le_of_ble_eq_true rfl⟩ ?_
  refine q_if_eq F 44 dX5_addHashed_4 rfl (fun c4 => ?_) (fun c4 => ?_)
  · refine q_iconst F dX5_addHashed_44 hc_0 ?_
    refine q_istore F dX5_addHashed_45 (by decide) rfl ?_
    refine q_aload_n F 0 dX5_addHashed_47 rfl rfl ?_
    refine q_iload F dX5_addHashed_48 rfl ?_
    refine q_if_ne F 57 dX5_addHashed_50 rfl (fun c50 => ?_) (fun c50 => ?_)
    · exact absurd c50 (by decide)
    refine q_iconst F dX5_addHashed_53 hc_1 ?_
    refine q_goto F 71 dX5_addHashed_54 rfl ?_
    refine q_callV_gi F (c_X5_holds hM) gX5_addHashed_X5_holds rfl hd_X5_holds ⟨Nat.le_of_ble_eq_true rfl, Nat.le_of_ble_eq_true rfl⟩ hM.1.1 rfl rfl rfl (Nat.le_of_ble_eq_true rfl) dX5_addHashed_71 ⟨Nat.le_of_ble_eq_true rfl, Nat.le_of_ble_eq_true rfl⟩ (fun r71 S71 hp71 => ?_)
    obtain ⟨rfl, hM, hm71⟩ := hp71
    have hm := hm.trans hm71
    refine q_cz ?_
    refine q_if_ne F 79 dX5_addHashed_74 rfl (fun c74 => ?_) (fun c74 => ?_)
    · exact absurd c74 (by decide)
    refine q_iconst F dX5_addHashed_77 hc_0 ?_
    exact (q_reti F hr rfl dX5_addHashed_78 (Nat.le_of_ble_eq_true rfl) (Nat.le_of_ble_eq_true rfl) ⟨_, rfl, hm, by first | exact Or.inl ⟨by unfold okNP; first | (rw [b2_0.mp c4]; rfl) | (rw [b2_0.mp c11, Bool.and_false]; rfl) | (rw [b2_0.mp c18, Bool.false_and, Bool.and_false]; rfl) | (rw [b2_0.mp c26, Bool.and_false, Bool.and_false]; rfl) | (rw [b2_0.mp c37, Bool.and_false]), hM⟩ | exact Or.inr (Or.inl ⟨(by unfold okNP; rw [b2_n0 c4, b2_n0 c11, b2_n0 c18, b2_n0 c26, b2_n0 c37]; rfl), nlt40 hn40 c63, hM⟩)⟩)
  refine q_iload_n F 2 dX5_addHashed_7 rfl rfl ?_
  refine q_callS_i F (c_X5_isKey) gX5_addHashed_X5_isKey rfl hd_X5_isKey ⟨Nat.le_of_ble_eq_true rfl, Nat.le_of_ble_eq_true rfl⟩ rfl rfl (Nat.le_of_ble_eq_true rfl) dX5_addHashed_8 ⟨Nat.le_of_ble_eq_true rfl, Nat.le_of_ble_eq_true rfl⟩ ?_
  refine q_if_eq F 44 dX5_addHashed_11 rfl (fun c11 => ?_) (fun c11 => ?_)
  · refine q_iconst F dX5_addHashed_44 hc_0 ?_
    refine q_istore F dX5_addHashed_45 (by decide) rfl ?_
    refine q_aload_n F 0 dX5_addHashed_47 rfl rfl ?_
    refine q_iload F dX5_addHashed_48 rfl ?_
    refine q_if_ne F 57 dX5_addHashed_50 rfl (fun c50 => ?_) (fun c50 => ?_)
    · exact absurd c50 (by decide)
    refine q_iconst F dX5_addHashed_53 hc_1 ?_
    refine q_goto F 71 dX5_addHashed_54 rfl ?_
    refine q_callV_gi F (c_X5_holds hM) gX5_addHashed_X5_holds rfl hd_X5_holds ⟨Nat.le_of_ble_eq_true rfl, Nat.le_of_ble_eq_true rfl⟩ hM.1.1 rfl rfl rfl (Nat.le_of_ble_eq_true rfl) dX5_addHashed_71 ⟨Nat.le_of_ble_eq_true rfl, Nat.le_of_ble_eq_true rfl⟩ (fun r71 S71 hp71 => ?_)
    obtain ⟨rfl, hM, hm71⟩ := hp71
    have hm := hm.trans hm71
    refine q_cz ?_
    refine q_if_ne F 79 dX5_addHashed_74 rfl (fun c74 => ?_) (fun c74 => ?_)
    · exact absurd c74 (by decide)
    refine q_iconst F dX5_addHashed_77 hc_0 ?_
    exact (q_reti F hr rfl dX5_addHashed_78 (Nat.le_of_ble_eq_true rfl) (Nat.le_of_ble_eq_true rfl) ⟨_, rfl, hm, by first | exact Or.inl ⟨by unfold okNP; first | (rw [b2_0.mp c4]; rfl) | (rw [b2_0.mp c11, Bool.and_false]; rfl) | (rw [b2_0.mp c18, Bool.false_and, Bool.and_false]; rfl) | (rw [b2_0.mp c26, Bool.and_false, Bool.and_false]; rfl) | (rw [b2_0.mp c37, Bool.and_false]), hM⟩ | exact Or.inr (Or.inl ⟨(by unfold okNP; rw [b2_n0 c4, b2_n0 c11, b2_n0 c18, b2_n0 c26, b2_n0 c37]; rfl), nlt40 hn40 c63, hM⟩)⟩)
  refine q_iload_n F 3 dX5_addHashed_14 rfl rfl ?_
  refine q_callS_i F (c_X5_isName) gX5_addHashed_X5_isName rfl hd_X5_isName ⟨Nat.le_of_ble_eq_true rfl, Nat.le_of_ble_eq_true rfl⟩ rfl rfl (Nat.le_of_ble_eq_true rfl) dX5_addHashed_15 ⟨Nat.le_of_ble_eq_true rfl, Nat.le_of_ble_eq_true rfl⟩ ?_
  refine q_if_eq F 44 dX5_addHashed_18 rfl (fun c18 => ?_) (fun c18 => ?_)
  · refine q_iconst F dX5_addHashed_44 hc_0 ?_
    refine q_istore F dX5_addHashed_45 (by decide) rfl ?_
    refine q_aload_n F 0 dX5_addHashed_47 rfl rfl ?_
    refine q_iload F dX5_addHashed_48 rfl ?_
    refine q_if_ne F 57 dX5_addHashed_50 rfl (fun c50 => ?_) (fun c50 => ?_)
    · exact absurd c50 (by decide)
    refine q_iconst F dX5_addHashed_53 hc_1 ?_
    refine q_goto F 71 dX5_addHashed_54 rfl ?_
    refine q_callV_gi F (c_X5_holds hM) gX5_addHashed_X5_holds rfl hd_X5_holds ⟨Nat.le_of_ble_eq_true rfl, Nat.le_of_ble_eq_true rfl⟩ hM.1.1 rfl rfl rfl (Nat.le_of_ble_eq_true rfl) dX5_addHashed_71 ⟨Nat.le_of_ble_eq_true rfl, Nat.le_of_ble_eq_true rfl⟩ (fun r71 S71 hp71 => ?_)
    obtain ⟨rfl, hM, hm71⟩ := hp71
    have hm := hm.trans hm71
    refine q_cz ?_
    refine q_if_ne F 79 dX5_addHashed_74 rfl (fun c74 => ?_) (fun c74 => ?_)
    · exact absurd c74 (by decide)
    refine q_iconst F dX5_addHashed_77 hc_0 ?_
    exact (q_reti F hr rfl dX5_addHashed_78 (Nat.le_of_ble_eq_true rfl) (Nat.le_of_ble_eq_true rfl) ⟨_, rfl, hm, by first | exact Or.inl ⟨by unfold okNP; first | (rw [b2_0.mp c4]; rfl) | (rw [b2_0.mp c11, Bool.and_false]; rfl) | (rw [b2_0.mp c18, Bool.false_and, Bool.and_false]; rfl) | (rw [b2_0.mp c26, Bool.and_false, Bool.and_false]; rfl) | (rw [b2_0.mp c37, Bool.and_false]), hM⟩ | exact Or.inr (Or.inl ⟨(by unfold okNP; rw [b2_n0 c4, b2_n0 c11, b2_n0 c18, b2_n0 c26, b2_n0 c37]; rfl), nlt40 hn40 c63, hM⟩)⟩)
  refine q_iload F dX5_addHashed_21 rfl ?_
  refine q_callS_i F (c_X5_isPort) gX5_addHashed_X5_isPort rfl hd_X5_isPort ⟨Nat.le_of_ble_eq_true rfl, Nat.le_of_ble_eq_true rfl⟩ rfl rfl (Nat.le_of_ble_eq_true rfl) dX5_addHashed_23 ⟨Nat.le_of_ble_eq_true rfl, Nat.le_of_ble_eq_true rfl⟩ ?_
  refine q_if_eq F 44 dX5_addHashed_26 rfl (fun c26 => ?_) (fun c26 => ?_)
  · refine q_iconst F dX5_addHashed_44 hc_0 ?_
    refine q_istore F dX5_addHashed_45 (by decide) rfl ?_
    refine q_aload_n F 0 dX5_addHashed_47 rfl rfl ?_
    refine q_iload F dX5_addHashed_48 rfl ?_
    refine q_if_ne F 57 dX5_addHashed_50 rfl (fun c50 => ?_) (fun c50 => ?_)
    · exact absurd c50 (by decide)
    refine q_iconst F dX5_addHashed_53 hc_1 ?_
    refine q_goto F 71 dX5_addHashed_54 rfl ?_
    refine q_callV_gi F (c_X5_holds hM) gX5_addHashed_X5_holds rfl hd_X5_holds ⟨Nat.le_of_ble_eq_true rfl, Nat.le_of_ble_eq_true rfl⟩ hM.1.1 rfl rfl rfl (Nat.le_of_ble_eq_true rfl) dX5_addHashed_71 ⟨Nat.le_of_ble_eq_true rfl, Nat.le_of_ble_eq_true rfl⟩ (fun r71 S71 hp71 => ?_)
    obtain ⟨rfl, hM, hm71⟩ := hp71
    have hm := hm.trans hm71
    refine q_cz ?_
    refine q_if_ne F 79 dX5_addHashed_74 rfl (fun c74 => ?_) (fun c74 => ?_)
    · exact absurd c74 (by decide)
    refine q_iconst F dX5_addHashed_77 hc_0 ?_
    exact (q_reti F hr rfl dX5_addHashed_78 (Nat.le_of_ble_eq_true rfl) (Nat.le_of_ble_eq_true rfl) ⟨_, rfl, hm, by first | exact Or.inl ⟨by unfold okNP; first | (rw [b2_0.mp c4]; rfl) | (rw [b2_0.mp c11, Bool.and_false]; rfl) | (rw [b2_0.mp c18, Bool.false_and, Bool.and_false]; rfl) | (rw [b2_0.mp c26, Bool.and_false, Bool.and_false]; rfl) | (rw [b2_0.mp c37, Bool.and_false]), hM⟩ | exact Or.inr (Or.inl ⟨(by unfold okNP; rw [b2_n0 c4, b2_n0 c11, b2_n0 c18, b2_n0 c26, b2_n0 c37]; rfl), nlt40 hn40 c63, hM⟩)⟩)
  refine q_iload F dX5_addHashed_29 rfl ?_
  refine q_iconst F dX5_addHashed_31 hc_0 ?_
  refine q_bipush (v := 99) F dX5_addHashed_32 (by decide) ?_
  refine q_callS_i F (c_X5_isIn) gX5_addHashed_X5_isIn rfl hd_X5_isIn ⟨Nat.le_of_ble_eq_true rfl, Nat.le_of_ble_eq_true rfl⟩ rfl rfl (Nat.le_of_ble_eq_true rfl) dX5_addHashed_34 ⟨Nat.le_of_ble_eq_true rfl, Nat.le_of_ble_eq_true rfl⟩ ?_
  refine q_if_eq F 44 dX5_addHashed_37 rfl (fun c37 => ?_) (fun c37 => ?_)
  · refine q_iconst F dX5_addHashed_44 hc_0 ?_
    refine q_istore F dX5_addHashed_45 (by decide) rfl ?_
    refine q_aload_n F 0 dX5_addHashed_47 rfl rfl ?_
    refine q_iload F dX5_addHashed_48 rfl ?_
    refine q_if_ne F 57 dX5_addHashed_50 rfl (fun c50 => ?_) (fun c50 => ?_)
    · exact absurd c50 (by decide)
    refine q_iconst F dX5_addHashed_53 hc_1 ?_
    refine q_goto F 71 dX5_addHashed_54 rfl ?_
    refine q_callV_gi F (c_X5_holds hM) gX5_addHashed_X5_holds rfl hd_X5_holds ⟨Nat.le_of_ble_eq_true rfl, Nat.le_of_ble_eq_true rfl⟩ hM.1.1 rfl rfl rfl (Nat.le_of_ble_eq_true rfl) dX5_addHashed_71 ⟨Nat.le_of_ble_eq_true rfl, Nat.le_of_ble_eq_true rfl⟩ (fun r71 S71 hp71 => ?_)
    obtain ⟨rfl, hM, hm71⟩ := hp71
    have hm := hm.trans hm71
    refine q_cz ?_
    refine q_if_ne F 79 dX5_addHashed_74 rfl (fun c74 => ?_) (fun c74 => ?_)
    · exact absurd c74 (by decide)
    refine q_iconst F dX5_addHashed_77 hc_0 ?_
    exact (q_reti F hr rfl dX5_addHashed_78 (Nat.le_of_ble_eq_true rfl) (Nat.le_of_ble_eq_true rfl) ⟨_, rfl, hm, by first | exact Or.inl ⟨by unfold okNP; first | (rw [b2_0.mp c4]; rfl) | (rw [b2_0.mp c11, Bool.and_false]; rfl) | (rw [b2_0.mp c18, Bool.false_and, Bool.and_false]; rfl) | (rw [b2_0.mp c26, Bool.and_false, Bool.and_false]; rfl) | (rw [b2_0.mp c37, Bool.and_false]), hM⟩ | exact Or.inr (Or.inl ⟨(by unfold okNP; rw [b2_n0 c4, b2_n0 c11, b2_n0 c18, b2_n0 c26, b2_n0 c37]; rfl), nlt40 hn40 c63, hM⟩)⟩)
  refine q_iconst F dX5_addHashed_40 hc_1 ?_
  refine q_goto F 45 dX5_addHashed_41 rfl ?_
  refine q_istore F dX5_addHashed_45 (by decide) rfl ?_
  refine q_aload_n F 0 dX5_addHashed_47 rfl rfl ?_
  refine q_iload F dX5_addHashed_48 rfl ?_
  refine q_if_ne F 57 dX5_addHashed_50 rfl (fun c50 => ?_) (fun c50 => ?_)
  · refine q_aload_n F 0 dX5_addHashed_57 rfl rfl ?_
    refine qg_X5_91 F hM.1.1 dX5_addHashed_58 ?_
    refine q_mg 4 (nI n) rfl hM hn ?_
    refine q_bipush (v := 40) F dX5_addHashed_61 (by decide) ?_
    refine q_icmp_ne F 70 dX5_addHashed_63 rfl (fun c63 => ?_) (fun c63 => ?_)
    · refine q_iconst F dX5_addHashed_70 hc_0 ?_
      refine q_callV_gi F (c_X5_holds hM) gX5_addHashed_X5_holds rfl hd_X5_holds ⟨Nat.le_of_ble_eq_true rfl, Nat.le_of_ble_eq_true rfl⟩ hM.1.1 rfl rfl rfl (Nat.le_of_ble_eq_true rfl) dX5_addHashed_71 ⟨Nat.le_of_ble_eq_true rfl, Nat.le_of_ble_eq_true rfl⟩ (fun r71 S71 hp71 => ?_)
      obtain ⟨rfl, hM, hm71⟩ := hp71
      have hm := hm.trans hm71
      refine q_cz ?_
      refine q_if_ne F 79 dX5_addHashed_74 rfl (fun c74 => ?_) (fun c74 => ?_)
      · have hlt := ylt40 hn40 c63
        refine q_aload_n F 0 dX5_addHashed_79 rfl rfl ?_
        refine q_iload_n F 1 dX5_addHashed_80 rfl rfl ?_
        refine q_iload_n F 2 dX5_addHashed_81 rfl rfl ?_
        refine q_iload_n F 3 dX5_addHashed_82 rfl rfl ?_
        refine q_iload F dX5_addHashed_83 rfl ?_
        refine q_iload F dX5_addHashed_85 rfl ?_
        refine q_callV_gv F (c_X5_addsHashed hM hn hlt) gX5_addHashed_X5_addsHashed rfl hd_X5_addsHashed ⟨Nat.le_of_ble_eq_true rfl, Nat.le_of_ble_eq_true rfl⟩ hM.1.1 rfl rfl rfl (Nat.le_of_ble_eq_true rfl) dX5_addHashed_87 ⟨Nat.le_of_ble_eq_true rfl, Nat.le_of_ble_eq_true rfl⟩ (fun S87 hp87 => ?_)
        obtain ⟨hM, hm87⟩ := hp87
        have hm := hm.trans hm87
        refine q_aload_n F 0 dX5_addHashed_90 rfl rfl ?_
        refine qg_X5_91 F hM.1.1 dX5_addHashed_91 ?_
        refine q_mg 4 (nI (n + 1)) rfl hM rfl ?_
        refine q_iconst F dX5_addHashed_94 hc_1 ?_
        refine q_isub F dX5_addHashed_95 ?_
        exact (q_reti F hr rfl dX5_addHashed_96 (Nat.le_of_ble_eq_true rfl) (Nat.le_of_ble_eq_true rfl) ⟨_, rfl, hm, Or.inr (Or.inr ⟨(by unfold okNP; rw [b2_n0 c4, b2_n0 c11, b2_n0 c18, b2_n0 c26, b2_n0 c37]; rfl), decide_eq_true hlt, nI_pred n, hM⟩)⟩)
      exact absurd c74 (by decide)
    refine q_iconst F dX5_addHashed_66 hc_2 ?_
    refine q_goto F 71 dX5_addHashed_67 rfl ?_
    refine q_callV_gi F (c_X5_holds hM) gX5_addHashed_X5_holds rfl hd_X5_holds ⟨Nat.le_of_ble_eq_true rfl, Nat.le_of_ble_eq_true rfl⟩ hM.1.1 rfl rfl rfl (Nat.le_of_ble_eq_true rfl) dX5_addHashed_71 ⟨Nat.le_of_ble_eq_true rfl, Nat.le_of_ble_eq_true rfl⟩ (fun r71 S71 hp71 => ?_)
    obtain ⟨rfl, hM, hm71⟩ := hp71
    have hm := hm.trans hm71
    refine q_cz ?_
    refine q_if_ne F 79 dX5_addHashed_74 rfl (fun c74 => ?_) (fun c74 => ?_)
    · exact absurd c74 (by decide)
    refine q_iconst F dX5_addHashed_77 hc_0 ?_
    exact (q_reti F hr rfl dX5_addHashed_78 (Nat.le_of_ble_eq_true rfl) (Nat.le_of_ble_eq_true rfl) ⟨_, rfl, hm, by first | exact Or.inl ⟨by unfold okNP; first | (rw [b2_0.mp c4]; rfl) | (rw [b2_0.mp c11, Bool.and_false]; rfl) | (rw [b2_0.mp c18, Bool.false_and, Bool.and_false]; rfl) | (rw [b2_0.mp c26, Bool.and_false, Bool.and_false]; rfl) | (rw [b2_0.mp c37, Bool.and_false]), hM⟩ | exact Or.inr (Or.inl ⟨(by unfold okNP; rw [b2_n0 c4, b2_n0 c11, b2_n0 c18, b2_n0 c26, b2_n0 c37]; rfl), nlt40 hn40 c63, hM⟩)⟩)
  exact absurd c50 (by decide)

set_option maxHeartbeats 4000000 in
set_option maxRecDepth 100000 in
theorem c_X5_becomesLike {l : Launch} {g : hG} {X : va_W} {S : hS} {md : Nat} {ar : Nat → Nat} {sc : Nat → Int32} {M : Nat → Nat → Int32} (hM : mS S md ar sc M) {i j : Nat} (hi : i < 40) (hj : j < 40) (hB16 : ∀ x, isB (M 16 x)) : hMet l yX5_becomesLike wsX5_becomesLike rm_X5_becomesLike g X S [.ref md, .int (nI i), .int (nI j)] (mV S md ar sc (aLike M i j)) := by
  refine h_start (maxL := 4) (ret := none) (by decide) rfl (Nat.le_of_ble_eq_true rfl) ?_
  intro p e s m args below meth c F hr hinit
  have hm := mdF.rf S
  refine q_aload_n F 0 dX5_becomesLike_0 rfl rfl ?_
  refine qg_X5_26 F (hM.1.2.1 9 rfl).1 hM.1.1 dX5_becomesLike_1 ?_
  refine q_iload_n F 1 dX5_becomesLike_4 rfl rfl ?_
  refine q_aload_n F 0 dX5_becomesLike_5 rfl rfl ?_
  refine qg_X5_26 F (hM.1.2.1 9 rfl).1 hM.1.1 dX5_becomesLike_6 ?_
  refine q_iload_n F 2 dX5_becomesLike_9 rfl rfl ?_
  refine q_iald F (hM.1.2.1 9 rfl).2.1 (hM.1.2.1 9 rfl).2.2 rfl hj (by decide) dX5_becomesLike_10 ?_
  refine q_ma 9 (M 9 j) rfl hM rfl ?_
  refine q_iast F (hM.1.2.1 9 rfl).2.1 (hM.1.2.1 9 rfl).2.2 rfl hi (by decide) dX5_becomesLike_11 ?_
  refine q_mA 9 rfl hM hm (fun S11 hM hm => ?_)
  refine q_aload_n F 0 dX5_becomesLike_12 rfl rfl ?_
  refine qg_X5_29 F (hM.1.2.1 10 rfl).1 hM.1.1 dX5_becomesLike_13 ?_
  refine q_iload_n F 1 dX5_becomesLike_16 rfl rfl ?_
  refine q_aload_n F 0 dX5_becomesLike_17 rfl rfl ?_
  refine qg_X5_29 F (hM.1.2.1 10 rfl).1 hM.1.1 dX5_becomesLike_18 ?_
  refine q_iload_n F 2 dX5_becomesLike_21 rfl rfl ?_
  refine q_iald F (hM.1.2.1 10 rfl).2.1 (hM.1.2.1 10 rfl).2.2 rfl hj (by decide) dX5_becomesLike_22 ?_
  refine q_ma 10 (M 10 j) rfl hM rfl ?_
  refine q_iast F (hM.1.2.1 10 rfl).2.1 (hM.1.2.1 10 rfl).2.2 rfl hi (by decide) dX5_becomesLike_23 ?_
  refine q_mA 10 rfl hM hm (fun S23 hM hm => ?_)
  refine q_aload_n F 0 dX5_becomesLike_24 rfl rfl ?_
  refine qg_X5_32 F (hM.1.2.1 11 rfl).1 hM.1.1 dX5_becomesLike_25 ?_
  refine q_iload_n F 1 dX5_becomesLike_28 rfl rfl ?_
  refine q_aload_n F 0 dX5_becomesLike_29 rfl rfl ?_
  refine qg_X5_32 F (hM.1.2.1 11 rfl).1 hM.1.1 dX5_becomesLike_30 ?_
  refine q_iload_n F 2 dX5_becomesLike_33 rfl rfl ?_
  refine q_iald F (hM.1.2.1 11 rfl).2.1 (hM.1.2.1 11 rfl).2.2 rfl hj (by decide) dX5_becomesLike_34 ?_
  refine q_ma 11 (M 11 j) rfl hM rfl ?_
  refine q_iast F (hM.1.2.1 11 rfl).2.1 (hM.1.2.1 11 rfl).2.2 rfl hi (by decide) dX5_becomesLike_35 ?_
  refine q_mA 11 rfl hM hm (fun S35 hM hm => ?_)
  refine q_aload_n F 0 dX5_becomesLike_36 rfl rfl ?_
  refine qg_X5_35 F (hM.1.2.1 12 rfl).1 hM.1.1 dX5_becomesLike_37 ?_
  refine q_iload_n F 1 dX5_becomesLike_40 rfl rfl ?_
  refine q_aload_n F 0 dX5_becomesLike_41 rfl rfl ?_
  refine qg_X5_35 F (hM.1.2.1 12 rfl).1 hM.1.1 dX5_becomesLike_42 ?_
  refine q_iload_n F 2 dX5_becomesLike_45 rfl rfl ?_
  refine q_iald F (hM.1.2.1 12 rfl).2.1 (hM.1.2.1 12 rfl).2.2 rfl hj (by decide) dX5_becomesLike_46 ?_
  refine q_ma 12 (M 12 j) rfl hM rfl ?_
  refine q_iast F (hM.1.2.1 12 rfl).2.1 (hM.1.2.1 12 rfl).2.2 rfl hi (by decide) dX5_becomesLike_47 ?_
  refine q_mA 12 rfl hM hm (fun S47 hM hm => ?_)
  refine q_iconst F dX5_becomesLike_48 hc_0 ?_
  refine q_istore_n F 3 dX5_becomesLike_49 rfl (by decide) rfl ?_
  rw [lkM_0] at hM
  have L : ∀ (r k : Nat) (S1 : hS), k + r = 4 → mS S1 md ar sc (lkM M i j k) → mdF S S1 → V p l e rm_X5_becomesLike s m args below meth c 4 g X (MQ below (hQ g X (mV S md ar sc (aLike M i j))) args s rm_X5_becomesLike.cells rm_X5_becomesLike.slots (hA g)) S1 0 0 [(0, .ref md), (1, .int (nI i)), (2, .int (nI j)), (3, .int (nI k))] 50 [] := by
    intro r
    induction r with
    | zero =>
      intro k S1 hkr hM hm
      have hkn : k = 4 := by omega
      subst hkn
      rw [lkM_4] at hM
      refine q_iload_n F 3 dX5_becomesLike_50 rfl rfl ?_
      refine q_iconst F dX5_becomesLike_51 hc_4 ?_
      refine q_icmp_ge F 141 dX5_becomesLike_52 rfl (fun c52 => ?_) (fun c52 => ?_)
      · exact (q_retv F hr dX5_becomesLike_141 (Nat.le_of_ble_eq_true rfl) (Nat.le_of_ble_eq_true rfl) ⟨rfl, hM, hm⟩)
      exact absurd c52 (gT (n := 4) rfl rfl (Nat.le_refl _) (by omega))
    | succ r ih =>
      intro k S1 hkr hM hm
      have hk : k < 4 := by omega
      refine q_iload_n F 3 dX5_becomesLike_50 rfl rfl ?_
      refine q_iconst F dX5_becomesLike_51 hc_4 ?_
      refine q_icmp_ge F 141 dX5_becomesLike_52 rfl (fun c52 => ?_) (fun c52 => ?_)
      · exact absurd c52 (gF (n := 4) rfl rfl hk (by omega))
      refine q_aload_n F 0 dX5_becomesLike_55 rfl rfl ?_
      refine qg_X5_38 F (hM.1.2.1 13 rfl).1 hM.1.1 dX5_becomesLike_56 ?_
      refine q_iconst F dX5_becomesLike_59 hc_4 ?_
      refine q_iload_n F 1 dX5_becomesLike_60 rfl rfl ?_
      refine q_imul F dX5_becomesLike_61 ?_
      refine q_iload_n F 3 dX5_becomesLike_62 rfl rfl ?_
      refine q_iadd F dX5_becomesLike_63 ?_
      refine q_top (v' := .int (nI (4 * i + k))) ?_ (congrArg Value.int (by rw [four, nI_add]))
      refine q_aload_n F 0 dX5_becomesLike_64 rfl rfl ?_
      refine qg_X5_38 F (hM.1.2.1 13 rfl).1 hM.1.1 dX5_becomesLike_65 ?_
      refine q_iconst F dX5_becomesLike_68 hc_4 ?_
      refine q_iload_n F 2 dX5_becomesLike_69 rfl rfl ?_
      refine q_imul F dX5_becomesLike_70 ?_
      refine q_iload_n F 3 dX5_becomesLike_71 rfl rfl ?_
      refine q_iadd F dX5_becomesLike_72 ?_
      refine q_top (v' := .int (nI (4 * j + k))) ?_ (congrArg Value.int (by rw [four, nI_add]))
      refine q_iald F (hM.1.2.1 13 rfl).2.1 (hM.1.2.1 13 rfl).2.2 rfl (show 4 * j + k < 160 by omega) (by decide) dX5_becomesLike_73 ?_
      refine q_ma 13 (M 13 (4 * j + k)) rfl hM (show lkM M i j k 13 (4 * j + k) = M 13 (4 * j + k) from lkM_rd (by decide) hk) ?_
      refine q_iast F (hM.1.2.1 13 rfl).2.1 (hM.1.2.1 13 rfl).2.2 rfl (show 4 * i + k < 160 by omega) (by decide) dX5_becomesLike_74 ?_
      refine q_mA 13 rfl hM hm (fun S74 hM hm => ?_)
      refine q_aload_n F 0 dX5_becomesLike_75 rfl rfl ?_
      refine qg_X5_41 F (hM.1.2.1 14 rfl).1 hM.1.1 dX5_becomesLike_76 ?_
      refine q_iconst F dX5_becomesLike_79 hc_4 ?_
      refine q_iload_n F 1 dX5_becomesLike_80 rfl rfl ?_
      refine q_imul F dX5_becomesLike_81 ?_
      refine q_iload_n F 3 dX5_becomesLike_82 rfl rfl ?_
      refine q_iadd F dX5_becomesLike_83 ?_
      refine q_top (v' := .int (nI (4 * i + k))) ?_ (congrArg Value.int (by rw [four, nI_add]))
      refine q_aload_n F 0 dX5_becomesLike_84 rfl rfl ?_
      refine qg_X5_41 F (hM.1.2.1 14 rfl).1 hM.1.1 dX5_becomesLike_85 ?_
      refine q_iconst F dX5_becomesLike_88 hc_4 ?_
      refine q_iload_n F 2 dX5_becomesLike_89 rfl rfl ?_
      refine q_imul F dX5_becomesLike_90 ?_
      refine q_iload_n F 3 dX5_becomesLike_91 rfl rfl ?_
      refine q_iadd F dX5_becomesLike_92 ?_
      refine q_top (v' := .int (nI (4 * j + k))) ?_ (congrArg Value.int (by rw [four, nI_add]))
      refine q_iald F (hM.1.2.1 14 rfl).2.1 (hM.1.2.1 14 rfl).2.2 rfl (show 4 * j + k < 160 by omega) (by decide) dX5_becomesLike_93 ?_
      refine q_ma 14 (M 14 (4 * j + k)) rfl hM (show lkM M i j k 14 (4 * j + k) = M 14 (4 * j + k) from lkM_rd (by decide) hk) ?_
      refine q_iast F (hM.1.2.1 14 rfl).2.1 (hM.1.2.1 14 rfl).2.2 rfl (show 4 * i + k < 160 by omega) (by decide) dX5_becomesLike_94 ?_
      refine q_mA 14 rfl hM hm (fun S94 hM hm => ?_)
      refine q_aload_n F 0 dX5_becomesLike_95 rfl rfl ?_
      refine qg_X5_44 F (hM.1.2.1 15 rfl).1 hM.1.1 dX5_becomesLike_96 ?_
      refine q_iconst F dX5_becomesLike_99 hc_4 ?_
      refine q_iload_n F 1 dX5_becomesLike_100 rfl rfl ?_
      refine q_imul F dX5_becomesLike_101 ?_
      refine q_iload_n F 3 dX5_becomesLike_102 rfl rfl ?_
      refine q_iadd F dX5_becomesLike_103 ?_
      refine q_top (v' := .int (nI (4 * i + k))) ?_ (congrArg Value.int (by rw [four, nI_add]))
      refine q_aload_n F 0 dX5_becomesLike_104 rfl rfl ?_
      refine qg_X5_44 F (hM.1.2.1 15 rfl).1 hM.1.1 dX5_becomesLike_105 ?_
      refine q_iconst F dX5_becomesLike_108 hc_4 ?_
      refine q_iload_n F 2 dX5_becomesLike_109 rfl rfl ?_
      refine q_imul F dX5_becomesLike_110 ?_
      refine q_iload_n F 3 dX5_becomesLike_111 rfl rfl ?_
      refine q_iadd F dX5_becomesLike_112 ?_
      refine q_top (v' := .int (nI (4 * j + k))) ?_ (congrArg Value.int (by rw [four, nI_add]))
      refine q_iald F (hM.1.2.1 15 rfl).2.1 (hM.1.2.1 15 rfl).2.2 rfl (show 4 * j + k < 160 by omega) (by decide) dX5_becomesLike_113 ?_
      refine q_ma 15 (M 15 (4 * j + k)) rfl hM (show lkM M i j k 15 (4 * j + k) = M 15 (4 * j + k) from lkM_rd (by decide) hk) ?_
      refine q_iast F (hM.1.2.1 15 rfl).2.1 (hM.1.2.1 15 rfl).2.2 rfl (show 4 * i + k < 160 by omega) (by decide) dX5_becomesLike_114 ?_
      refine q_mA 15 rfl hM hm (fun S114 hM hm => ?_)
      refine q_aload_n F 0 dX5_becomesLike_115 rfl rfl ?_
      refine qg_X5_47 F (hM.1.2.1 16 rfl).1 hM.1.1 dX5_becomesLike_116 ?_
      refine q_iconst F dX5_becomesLike_119 hc_4 ?_
      refine q_iload_n F 1 dX5_becomesLike_120 rfl rfl ?_
      refine q_imul F dX5_becomesLike_121 ?_
      refine q_iload_n F 3 dX5_becomesLike_122 rfl rfl ?_
      refine q_iadd F dX5_becomesLike_123 ?_
      refine q_top (v' := .int (nI (4 * i + k))) ?_ (congrArg Value.int (by rw [four, nI_add]))
      refine q_aload_n F 0 dX5_becomesLike_124 rfl rfl ?_
      refine qg_X5_47 F (hM.1.2.1 16 rfl).1 hM.1.1 dX5_becomesLike_125 ?_
      refine q_iconst F dX5_becomesLike_128 hc_4 ?_
      refine q_iload_n F 2 dX5_becomesLike_129 rfl rfl ?_
      refine q_imul F dX5_becomesLike_130 ?_
      refine q_iload_n F 3 dX5_becomesLike_131 rfl rfl ?_
      refine q_iadd F dX5_becomesLike_132 ?_
      refine q_top (v' := .int (nI (4 * j + k))) ?_ (congrArg Value.int (by rw [four, nI_add]))
      refine q_zald F (hM.1.2.1 16 rfl).2.1 (hM.1.2.1 16 rfl).2.2 rfl (show 4 * j + k < 160 by omega) (by decide) dX5_becomesLike_133 ?_
      refine q_ma 16 (M 16 (4 * j + k)) rfl hM (show lkM M i j k 16 (4 * j + k) = M 16 (4 * j + k) from lkM_rd (by decide) hk) ?_
      refine q_zast F (hB16 _) (hM.1.2.1 16 rfl).2.1 (hM.1.2.1 16 rfl).2.2 rfl (show 4 * i + k < 160 by omega) (by decide) dX5_becomesLike_134 ?_
      refine q_mA 16 rfl hM hm (fun S134 hM hm => ?_)
      refine q_iinc F (nI (k + 1)) dX5_becomesLike_135 rfl (nI_inc k) (by decide) rfl ?_
      refine q_goto F 50 dX5_becomesLike_138 rfl ?_
      rw [lkM_s hk] at hM
      exact q_to (ih (k + 1) _ (by omega) hM hm) ⟨rfl, rfl, rfl, rfl, trivial⟩
  exact q_to (L 4 0 _ (by omega) hM hm) ⟨rfl, rfl, rfl, rfl, trivial⟩

set_option maxHeartbeats 4000000 in
set_option maxRecDepth 100000 in
theorem c_X5_removes {l : Launch} {g : hG} {X : va_W} {S : hS} {md : Nat} {ar : Nat → Nat} {sc : Nat → Int32} {M : Nat → Nat → Int32} (hM : mS S md ar sc M) {n i : Nat} (hn : sc 4 = nI (n + 1)) (hn40 : n < 40) (hi : i < n + 1) (hB16 : ∀ x, isB (M 16 x)) : hMet l yX5_removes wsX5_removes rm_X5_removes g X S [.ref md, .int (nI i)] (mV S md ar (scN sc n) (aRem M i (n + 1))) := by
  refine h_start (maxL := 3) (ret := none) (by decide) rfl (Nat.le_of_ble_eq_true rfl) ?_
  intro p e s m args below meth c F hr hinit
  have hm := mdF.rf S
  refine q_aload_n F 0 dX5_removes_0 rfl rfl ?_
  refine q_dup F dX5_removes_1 rfl ?_
  refine qg_X5_91 F hM.1.1 dX5_removes_2 ?_
  refine q_mg 4 (nI (n + 1)) rfl hM hn ?_
  refine q_iconst F dX5_removes_5 hc_1 ?_
  refine q_isub F dX5_removes_6 ?_
  refine q_top (v' := .int (nI n)) ?_ (congrArg Value.int (nI_pred n))
  refine qp_X5_91 F hM.1.1 dX5_removes_7 ?_
  refine q_mF 4 hM hm (fun S7 hM hm => ?_)
  refine q_iload_n F 1 dX5_removes_10 rfl rfl ?_
  refine q_istore_n F 2 dX5_removes_11 rfl (by decide) rfl ?_
  rw [← rmM_0 M i] at hM
  have L : ∀ (r k : Nat) (S1 : hS), k + r = n → i ≤ k → mS S1 md ar (scN sc n) (rmM M i k) → mdF S S1 → V p l e rm_X5_removes s m args below meth c 3 g X (MQ below (hQ g X (mV S md ar (scN sc n) (aRem M i (n + 1)))) args s rm_X5_removes.cells rm_X5_removes.slots (hA g)) S1 0 0 [(0, .ref md), (1, .int (nI i)), (2, .int (nI k))] 12 [] := by
    intro r
    induction r with
    | zero =>
      intro k S1 hkr hik hM hm
      have hkn : k = n := by omega
      subst hkn
      rw [rmM_e] at hM
      refine q_iload_n F 2 dX5_removes_12 rfl rfl ?_
      refine q_aload_n F 0 dX5_removes_13 rfl rfl ?_
      refine qg_X5_91 F hM.1.1 dX5_removes_14 ?_
      refine q_mg 4 (nI k) rfl hM rfl ?_
      refine q_icmp_ge F 90 dX5_removes_17 rfl (fun c17 => ?_) (fun c17 => ?_)
      · exact (q_retv F hr dX5_removes_90 (Nat.le_of_ble_eq_true rfl) (Nat.le_of_ble_eq_true rfl) ⟨rfl, hM, hm⟩)
      exact absurd c17 (gT rfl rfl (Nat.le_refl _) (by omega))
    | succ r ih =>
      intro k S1 hkr hik hM hm
      have hk : k < n := by omega
      refine q_iload_n F 2 dX5_removes_12 rfl rfl ?_
      refine q_aload_n F 0 dX5_removes_13 rfl rfl ?_
      refine qg_X5_91 F hM.1.1 dX5_removes_14 ?_
      refine q_mg 4 (nI n) rfl hM rfl ?_
      refine q_icmp_ge F 90 dX5_removes_17 rfl (fun c17 => ?_) (fun c17 => ?_)
      · exact absurd c17 (gF rfl rfl hk (by omega))
      refine q_aload_n F 0 dX5_removes_20 rfl rfl ?_
      refine qg_X5_13 F (hM.1.2.1 5 rfl).1 hM.1.1 dX5_removes_21 ?_
      refine q_iload_n F 2 dX5_removes_24 rfl rfl ?_
      refine q_aload_n F 0 dX5_removes_25 rfl rfl ?_
      refine qg_X5_13 F (hM.1.2.1 5 rfl).1 hM.1.1 dX5_removes_26 ?_
      refine q_iload_n F 2 dX5_removes_29 rfl rfl ?_
      refine q_iconst F dX5_removes_30 hc_1 ?_
      refine q_iadd F dX5_removes_31 ?_
      refine q_top (v' := .int (nI (k + 1))) ?_ (congrArg Value.int (nI_1 k))
      refine q_iald F (hM.1.2.1 5 rfl).2.1 (hM.1.2.1 5 rfl).2.2 rfl (show k + 1 < 40 by omega) (by decide) dX5_removes_32 ?_
      refine q_ma 5 (M 5 (k + 1)) rfl hM (rmM_rd (M := M) (i := i) (by decide)) ?_
      refine q_iast F (hM.1.2.1 5 rfl).2.1 (hM.1.2.1 5 rfl).2.2 rfl (show k < 40 by omega) (by decide) dX5_removes_33 ?_
      refine q_mA 5 rfl hM hm (fun S33 hM hm => ?_)
      refine q_aload_n F 0 dX5_removes_34 rfl rfl ?_
      refine qg_X5_17 F (hM.1.2.1 6 rfl).1 hM.1.1 dX5_removes_35 ?_
      refine q_iload_n F 2 dX5_removes_38 rfl rfl ?_
      refine q_aload_n F 0 dX5_removes_39 rfl rfl ?_
      refine qg_X5_17 F (hM.1.2.1 6 rfl).1 hM.1.1 dX5_removes_40 ?_
      refine q_iload_n F 2 dX5_removes_43 rfl rfl ?_
      refine q_iconst F dX5_removes_44 hc_1 ?_
      refine q_iadd F dX5_removes_45 ?_
      refine q_top (v' := .int (nI (k + 1))) ?_ (congrArg Value.int (nI_1 k))
      refine q_iald F (hM.1.2.1 6 rfl).2.1 (hM.1.2.1 6 rfl).2.2 rfl (show k + 1 < 40 by omega) (by decide) dX5_removes_46 ?_
      refine q_ma 6 (M 6 (k + 1)) rfl hM (rmM_rd (M := M) (i := i) (by decide)) ?_
      refine q_iast F (hM.1.2.1 6 rfl).2.1 (hM.1.2.1 6 rfl).2.2 rfl (show k < 40 by omega) (by decide) dX5_removes_47 ?_
      refine q_mA 6 rfl hM hm (fun S47 hM hm => ?_)
      refine q_aload_n F 0 dX5_removes_48 rfl rfl ?_
      refine qg_X5_20 F (hM.1.2.1 7 rfl).1 hM.1.1 dX5_removes_49 ?_
      refine q_iload_n F 2 dX5_removes_52 rfl rfl ?_
      refine q_aload_n F 0 dX5_removes_53 rfl rfl ?_
      refine qg_X5_20 F (hM.1.2.1 7 rfl).1 hM.1.1 dX5_removes_54 ?_
      refine q_iload_n F 2 dX5_removes_57 rfl rfl ?_
      refine q_iconst F dX5_removes_58 hc_1 ?_
      refine q_iadd F dX5_removes_59 ?_
      refine q_top (v' := .int (nI (k + 1))) ?_ (congrArg Value.int (nI_1 k))
      refine q_iald F (hM.1.2.1 7 rfl).2.1 (hM.1.2.1 7 rfl).2.2 rfl (show k + 1 < 40 by omega) (by decide) dX5_removes_60 ?_
      refine q_ma 7 (M 7 (k + 1)) rfl hM (rmM_rd (M := M) (i := i) (by decide)) ?_
      refine q_iast F (hM.1.2.1 7 rfl).2.1 (hM.1.2.1 7 rfl).2.2 rfl (show k < 40 by omega) (by decide) dX5_removes_61 ?_
      refine q_mA 7 rfl hM hm (fun S61 hM hm => ?_)
      refine q_aload_n F 0 dX5_removes_62 rfl rfl ?_
      refine qg_X5_23 F (hM.1.2.1 8 rfl).1 hM.1.1 dX5_removes_63 ?_
      refine q_iload_n F 2 dX5_removes_66 rfl rfl ?_
      refine q_aload_n F 0 dX5_removes_67 rfl rfl ?_
      refine qg_X5_23 F (hM.1.2.1 8 rfl).1 hM.1.1 dX5_removes_68 ?_
      refine q_iload_n F 2 dX5_removes_71 rfl rfl ?_
      refine q_iconst F dX5_removes_72 hc_1 ?_
      refine q_iadd F dX5_removes_73 ?_
      refine q_top (v' := .int (nI (k + 1))) ?_ (congrArg Value.int (nI_1 k))
      refine q_iald F (hM.1.2.1 8 rfl).2.1 (hM.1.2.1 8 rfl).2.2 rfl (show k + 1 < 40 by omega) (by decide) dX5_removes_74 ?_
      refine q_ma 8 (M 8 (k + 1)) rfl hM (rmM_rd (M := M) (i := i) (by decide)) ?_
      refine q_iast F (hM.1.2.1 8 rfl).2.1 (hM.1.2.1 8 rfl).2.2 rfl (show k < 40 by omega) (by decide) dX5_removes_75 ?_
      refine q_mA 8 rfl hM hm (fun S75 hM hm => ?_)
      refine q_aload_n F 0 dX5_removes_76 rfl rfl ?_
      refine q_iload_n F 2 dX5_removes_77 rfl rfl ?_
      refine q_iload_n F 2 dX5_removes_78 rfl rfl ?_
      refine q_iconst F dX5_removes_79 hc_1 ?_
      refine q_iadd F dX5_removes_80 ?_
      refine q_top (v' := .int (nI (k + 1))) ?_ (congrArg Value.int (nI_1 k))
      refine q_callV_gv F (c_X5_becomesLike hM (show k < 40 by omega) (show k + 1 < 40 by omega) (rmM_b hB16)) gX5_removes_X5_becomesLike rfl hd_X5_becomesLike ⟨Nat.le_of_ble_eq_true rfl, Nat.le_of_ble_eq_true rfl⟩ hM.1.1 rfl rfl rfl (Nat.le_of_ble_eq_true rfl) dX5_removes_81 ⟨Nat.le_of_ble_eq_true rfl, Nat.le_of_ble_eq_true rfl⟩ (fun S81 hp81 => ?_)
      obtain ⟨hM, hm81⟩ := hp81
      have hm := hm.trans hm81
      refine q_iinc F (nI (k + 1)) dX5_removes_84 rfl (nI_inc k) (by decide) rfl ?_
      refine q_goto F 12 dX5_removes_87 rfl ?_
      rw [rmM_s hik] at hM
      exact q_to (ih (k + 1) _ (by omega) (by omega) hM hm) ⟨rfl, rfl, rfl, trivial⟩
  exact q_to (L (n - i) i _ (by omega) (Nat.le_refl _) hM hm) ⟨rfl, rfl, rfl, trivial⟩

set_option maxHeartbeats 4000000 in
set_option maxRecDepth 100000 in
theorem c_X5_remove {l : Launch} {g : hG} {X : va_W} {S : hS} {md : Nat} {ar : Nat → Nat} {sc : Nat → Int32} {M : Nat → Nat → Int32} (hM : mS S md ar sc M) {n : Nat} (hn : sc 4 = nI n) (hn40 : n ≤ 40) {v : Int32} (hB16 : ∀ x, isB (M 16 x)) : hMet l yX5_remove wsX5_remove rm_X5_remove g X S [.ref md, .int v] (mP1 S md ar (inL v n) sc M (M 5 v.toNatClampNeg) (scN (va_up sc 0 0) (n - 1)) (aRem M v.toNatClampNeg n)) := by
  refine h_start (maxL := 3) (ret := (some .int)) (by decide) rfl (Nat.le_of_ble_eq_true rfl) ?_
  intro p e s m args below meth c F hr hinit
  have hm := mdF.rf S
  refine q_aload_n F 0 dX5_remove_0 rfl rfl ?_
  refine q_aload_n F 0 dX5_remove_1 rfl rfl ?_
  refine q_iload_n F 1 dX5_remove_2 rfl rfl ?_
  refine q_callV_i F (c_X5_isLine hM hn hn40) gX5_remove_X5_isLine rfl hd_X5_isLine ⟨Nat.le_of_ble_eq_true rfl, Nat.le_of_ble_eq_true rfl⟩ hM.1.1 rfl rfl rfl (Nat.le_of_ble_eq_true rfl) dX5_remove_3 ⟨Nat.le_of_ble_eq_true rfl, Nat.le_of_ble_eq_true rfl⟩ ?_
  refine q_if_eq F 13 dX5_remove_6 rfl (fun c6 => ?_) (fun c6 => ?_)
  · refine q_iconst F dX5_remove_13 hc_1 ?_
    refine q_callV_gi F (c_X5_holds hM) gX5_remove_X5_holds rfl hd_X5_holds ⟨Nat.le_of_ble_eq_true rfl, Nat.le_of_ble_eq_true rfl⟩ hM.1.1 rfl rfl rfl (Nat.le_of_ble_eq_true rfl) dX5_remove_14 ⟨Nat.le_of_ble_eq_true rfl, Nat.le_of_ble_eq_true rfl⟩ (fun r14 S14 hp14 => ?_)
    obtain ⟨rfl, hM, hm14⟩ := hp14
    have hm := hm.trans hm14
    refine q_cz ?_
    refine q_if_ne F 22 dX5_remove_17 rfl (fun c17 => ?_) (fun c17 => ?_)
    · exact absurd c17 (by decide)
    refine q_iconst F dX5_remove_20 hc_0 ?_
    exact (q_reti F hr rfl dX5_remove_21 (Nat.le_of_ble_eq_true rfl) (Nat.le_of_ble_eq_true rfl) ⟨_, rfl, hm, Or.inl ⟨b2_0.mp c6, hM⟩⟩)
  refine q_iconst F dX5_remove_9 hc_0 ?_
  refine q_goto F 14 dX5_remove_10 rfl ?_
  refine q_callV_gi F (c_X5_holds hM) gX5_remove_X5_holds rfl hd_X5_holds ⟨Nat.le_of_ble_eq_true rfl, Nat.le_of_ble_eq_true rfl⟩ hM.1.1 rfl rfl rfl (Nat.le_of_ble_eq_true rfl) dX5_remove_14 ⟨Nat.le_of_ble_eq_true rfl, Nat.le_of_ble_eq_true rfl⟩ (fun r14 S14 hp14 => ?_)
  obtain ⟨rfl, hM, hm14⟩ := hp14
  have hm := hm.trans hm14
  refine q_cz ?_
  refine q_if_ne F 22 dX5_remove_17 rfl (fun c17 => ?_) (fun c17 => ?_)
  · obtain ⟨j, hj, rfl⟩ := inL_get (b2_n0 c6) (by omega)
    have hcl : (nI j).toNatClampNeg = j := nI_clamp (by omega)
    rw [hcl]
    have hi40 : j < 40 := by omega
    obtain ⟨n0, rfl⟩ : ∃ n0, n = n0 + 1 := ⟨n - 1, by omega⟩
    refine q_aload_n F 0 dX5_remove_22 rfl rfl ?_
    refine qg_X5_13 F (hM.1.2.1 5 rfl).1 hM.1.1 dX5_remove_23 ?_
    refine q_iload_n F 1 dX5_remove_26 rfl rfl ?_
    refine q_iald F (hM.1.2.1 5 rfl).2.1 (hM.1.2.1 5 rfl).2.2 rfl hi40 (by decide) dX5_remove_27 ?_
    refine q_ma 5 (M 5 j) rfl hM rfl ?_
    refine q_istore_n F 2 dX5_remove_28 rfl (by decide) rfl ?_
    refine q_aload_n F 0 dX5_remove_29 rfl rfl ?_
    refine q_iload_n F 1 dX5_remove_30 rfl rfl ?_
    refine q_callV_gv F (c_X5_removes hM hn (by omega) hj hB16) gX5_remove_X5_removes rfl hd_X5_removes ⟨Nat.le_of_ble_eq_true rfl, Nat.le_of_ble_eq_true rfl⟩ hM.1.1 rfl rfl rfl (Nat.le_of_ble_eq_true rfl) dX5_remove_31 ⟨Nat.le_of_ble_eq_true rfl, Nat.le_of_ble_eq_true rfl⟩ (fun S31 hp31 => ?_)
    obtain ⟨hM, hm31⟩ := hp31
    have hm := hm.trans hm31
    refine q_iload_n F 2 dX5_remove_34 rfl rfl ?_
    exact (q_reti F hr rfl dX5_remove_35 (Nat.le_of_ble_eq_true rfl) (Nat.le_of_ble_eq_true rfl) ⟨_, rfl, hm, Or.inr ⟨b2_n0 c6, rfl, hM⟩⟩)
  exact absurd c17 (by decide)

