theorem cf_days {first last : Int32} (h1 : ¬ first < 0) (h2 : ¬ last < first) (h3 : ¬ (5000 : Int32) < last) : inR first 0 5000 = true ∧ inR last first 5000 = true :=
  ⟨inR_t h1 (Int32.le_trans (Int32.not_lt.mp h2) (Int32.not_lt.mp h3)), inR_t h2 (Int32.not_lt.mp h3)⟩

set_option maxHeartbeats 4000000 in
set_option maxRecDepth 100000 in
theorem c_X5_certify {l : Launch} {g : hG} {X : va_W} {S : hS} {md : Nat} {ar : Nat → Nat} {sc : Nat → Int32} {M : Nat → Nat → Int32} (hM : mS S md ar sc M) {nc : Nat} (hc : sc 17 = nI nc) (hc20 : nc ≤ 20) {au key name places serial first last : Int32} : hMet l yX5_certify wsX5_certify rm_X5_certify g X S [.ref md, .int au, .int key, .int name, .int places, .int serial, .int first, .int last] (mP2 S md ar (okK au && okK key && okN name && inR places 0 15 && inR serial 0 999 && inR first 0 5000 && inR last first 5000) (decide (nc < 20)) sc M (nI nc) (va_up (va_up sc 0 0) 17 (nI (nc + 1))) (aCert M nc au key name places serial first last)) := by
  refine h_start (maxL := 10) (ret := (some .int)) (by decide) rfl (Nat.le_of_ble_eq_true rfl) ?_
  intro p e s m args below meth c F hr hinit
  have hm := mdF.rf S
  refine q_iload_n F 1 dX5_certify_0 rfl rfl ?_
  refine q_callS_i F (c_X5_isKey) gX5_certify_X5_isKey rfl hd_X5_isKey ⟨Nat.le_of_ble_eq_true rfl, Nat.le_of_ble_eq_true rfl⟩ rfl rfl (Nat.le_of_ble_eq_true rfl) dX5_certify_1 ⟨Nat.le_of_ble_eq_true rfl, Nat.le_of_ble_eq_true rfl⟩ ?_
  refine q_if_eq F 48 dX5_certify_4 rfl (fun c4 => ?_) (fun c4 => ?_)
  · refine q_iconst F dX5_certify_48 hc_0 ?_
    refine q_istore F dX5_certify_49 (by decide) rfl ?_
    refine q_iload F dX5_certify_51 rfl ?_
    refine q_if_lt F 75 dX5_certify_53 rfl (fun c53 => ?_) (fun c53 => ?_)
    · refine q_iconst F dX5_certify_75 hc_0 ?_
      refine q_istore F dX5_certify_76 (by decide) rfl ?_
      refine q_aload_n F 0 dX5_certify_78 rfl rfl ?_
      refine q_iload F dX5_certify_79 rfl ?_
      refine q_if_eq F 89 dX5_certify_81 rfl (fun c81 => ?_) (fun c81 => ?_)
      · refine q_iconst F dX5_certify_89 hc_1 ?_
        refine q_goto F 107 dX5_certify_90 rfl ?_
        refine q_callV_gi F (c_X5_holds hM) gX5_certify_X5_holds rfl hd_X5_holds ⟨Nat.le_of_ble_eq_true rfl, Nat.le_of_ble_eq_true rfl⟩ hM.1.1 rfl rfl rfl (Nat.le_of_ble_eq_true rfl) dX5_certify_107 ⟨Nat.le_of_ble_eq_true rfl, Nat.le_of_ble_eq_true rfl⟩ (fun r107 S107 hp107 => ?_)
        obtain ⟨rfl, hM, hm107⟩ := hp107
        have hm := hm.trans hm107
        refine q_cz ?_
        refine q_if_ne F 115 dX5_certify_110 rfl (fun c110 => ?_) (fun c110 => ?_)
        · exact absurd c110 (by decide)
        refine q_iconst F dX5_certify_113 hc_0 ?_
        exact (q_reti F hr rfl dX5_certify_114 (Nat.le_of_ble_eq_true rfl) (Nat.le_of_ble_eq_true rfl) ⟨_, rfl, hm, by first | exact Or.inl ⟨(by first | (simp [b2_0.mp c4]; done) | (simp [b2_0.mp c11]; done) | (simp [b2_0.mp c18]; done) | (simp [b2_0.mp c29]; done) | (simp [b2_0.mp c41]; done) | (simp [inR_f1 c53]; done) | (simp [inR_f1 c60]; done) | (simp [inR_f2 (Int32.not_le.mpr c68)]; done)), hM⟩ | exact Or.inr (Or.inl ⟨(by simp [b2_n0 c4, b2_n0 c11, b2_n0 c18, b2_n0 c29, b2_n0 c41, (cf_days c53 c60 c68).1, (cf_days c53 c60 c68).2]), nlt20 hc20 c99, hM⟩)⟩)
      exact absurd c81 (by decide)
    refine q_iload F dX5_certify_56 rfl ?_
    refine q_iload F dX5_certify_58 rfl ?_
    refine q_icmp_lt F 75 dX5_certify_60 rfl (fun c60 => ?_) (fun c60 => ?_)
    · refine q_iconst F dX5_certify_75 hc_0 ?_
      refine q_istore F dX5_certify_76 (by decide) rfl ?_
      refine q_aload_n F 0 dX5_certify_78 rfl rfl ?_
      refine q_iload F dX5_certify_79 rfl ?_
      refine q_if_eq F 89 dX5_certify_81 rfl (fun c81 => ?_) (fun c81 => ?_)
      · refine q_iconst F dX5_certify_89 hc_1 ?_
        refine q_goto F 107 dX5_certify_90 rfl ?_
        refine q_callV_gi F (c_X5_holds hM) gX5_certify_X5_holds rfl hd_X5_holds ⟨Nat.le_of_ble_eq_true rfl, Nat.le_of_ble_eq_true rfl⟩ hM.1.1 rfl rfl rfl (Nat.le_of_ble_eq_true rfl) dX5_certify_107 ⟨Nat.le_of_ble_eq_true rfl, Nat.le_of_ble_eq_true rfl⟩ (fun r107 S107 hp107 => ?_)
        obtain ⟨rfl, hM, hm107⟩ := hp107
        have hm := hm.trans hm107
        refine q_cz ?_
        refine q_if_ne F 115 dX5_certify_110 rfl (fun c110 => ?_) (fun c110 => ?_)
        · exact absurd c110 (by decide)
        refine q_iconst F dX5_certify_113 hc_0 ?_
        exact (q_reti F hr rfl dX5_certify_114 (Nat.le_of_ble_eq_true rfl) (Nat.le_of_ble_eq_true rfl) ⟨_, rfl, hm, by first | exact Or.inl ⟨(by first | (simp [b2_0.mp c4]; done) | (simp [b2_0.mp c11]; done) | (simp [b2_0.mp c18]; done) | (simp [b2_0.mp c29]; done) | (simp [b2_0.mp c41]; done) | (simp [inR_f1 c53]; done) | (simp [inR_f1 c60]; done) | (simp [inR_f2 (Int32.not_le.mpr c68)]; done)), hM⟩ | exact Or.inr (Or.inl ⟨(by simp [b2_n0 c4, b2_n0 c11, b2_n0 c18, b2_n0 c29, b2_n0 c41, (cf_days c53 c60 c68).1, (cf_days c53 c60 c68).2]), nlt20 hc20 c99, hM⟩)⟩)
      exact absurd c81 (by decide)
    refine q_iload F dX5_certify_63 rfl ?_
    refine q_sipush (v := 5000) F dX5_certify_65 (by decide) ?_
    refine q_icmp_gt F 75 dX5_certify_68 rfl (fun c68 => ?_) (fun c68 => ?_)
    · refine q_iconst F dX5_certify_75 hc_0 ?_
      refine q_istore F dX5_certify_76 (by decide) rfl ?_
      refine q_aload_n F 0 dX5_certify_78 rfl rfl ?_
      refine q_iload F dX5_certify_79 rfl ?_
      refine q_if_eq F 89 dX5_certify_81 rfl (fun c81 => ?_) (fun c81 => ?_)
      · refine q_iconst F dX5_certify_89 hc_1 ?_
        refine q_goto F 107 dX5_certify_90 rfl ?_
        refine q_callV_gi F (c_X5_holds hM) gX5_certify_X5_holds rfl hd_X5_holds ⟨Nat.le_of_ble_eq_true rfl, Nat.le_of_ble_eq_true rfl⟩ hM.1.1 rfl rfl rfl (Nat.le_of_ble_eq_true rfl) dX5_certify_107 ⟨Nat.le_of_ble_eq_true rfl, Nat.le_of_ble_eq_true rfl⟩ (fun r107 S107 hp107 => ?_)
        obtain ⟨rfl, hM, hm107⟩ := hp107
        have hm := hm.trans hm107
        refine q_cz ?_
        refine q_if_ne F 115 dX5_certify_110 rfl (fun c110 => ?_) (fun c110 => ?_)
        · exact absurd c110 (by decide)
        refine q_iconst F dX5_certify_113 hc_0 ?_
        exact (q_reti F hr rfl dX5_certify_114 (Nat.le_of_ble_eq_true rfl) (Nat.le_of_ble_eq_true rfl) ⟨_, rfl, hm, by first | exact Or.inl ⟨(by first | (simp [b2_0.mp c4]; done) | (simp [b2_0.mp c11]; done) | (simp [b2_0.mp c18]; done) | (simp [b2_0.mp c29]; done) | (simp [b2_0.mp c41]; done) | (simp [inR_f1 c53]; done) | (simp [inR_f1 c60]; done) | (simp [inR_f2 (Int32.not_le.mpr c68)]; done)), hM⟩ | exact Or.inr (Or.inl ⟨(by simp [b2_n0 c4, b2_n0 c11, b2_n0 c18, b2_n0 c29, b2_n0 c41, (cf_days c53 c60 c68).1, (cf_days c53 c60 c68).2]), nlt20 hc20 c99, hM⟩)⟩)
      exact absurd c81 (by decide)
    refine q_iconst F dX5_certify_71 hc_1 ?_
    refine q_goto F 76 dX5_certify_72 rfl ?_
    refine q_istore F dX5_certify_76 (by decide) rfl ?_
    refine q_aload_n F 0 dX5_certify_78 rfl rfl ?_
    refine q_iload F dX5_certify_79 rfl ?_
    refine q_if_eq F 89 dX5_certify_81 rfl (fun c81 => ?_) (fun c81 => ?_)
    · refine q_iconst F dX5_certify_89 hc_1 ?_
      refine q_goto F 107 dX5_certify_90 rfl ?_
      refine q_callV_gi F (c_X5_holds hM) gX5_certify_X5_holds rfl hd_X5_holds ⟨Nat.le_of_ble_eq_true rfl, Nat.le_of_ble_eq_true rfl⟩ hM.1.1 rfl rfl rfl (Nat.le_of_ble_eq_true rfl) dX5_certify_107 ⟨Nat.le_of_ble_eq_true rfl, Nat.le_of_ble_eq_true rfl⟩ (fun r107 S107 hp107 => ?_)
      obtain ⟨rfl, hM, hm107⟩ := hp107
      have hm := hm.trans hm107
      refine q_cz ?_
      refine q_if_ne F 115 dX5_certify_110 rfl (fun c110 => ?_) (fun c110 => ?_)
      · exact absurd c110 (by decide)
      refine q_iconst F dX5_certify_113 hc_0 ?_
      exact (q_reti F hr rfl dX5_certify_114 (Nat.le_of_ble_eq_true rfl) (Nat.le_of_ble_eq_true rfl) ⟨_, rfl, hm, by first | exact Or.inl ⟨(by first | (simp [b2_0.mp c4]; done) | (simp [b2_0.mp c11]; done) | (simp [b2_0.mp c18]; done) | (simp [b2_0.mp c29]; done) | (simp [b2_0.mp c41]; done) | (simp [inR_f1 c53]; done) | (simp [inR_f1 c60]; done) | (simp [inR_f2 (Int32.not_le.mpr c68)]; done)), hM⟩ | exact Or.inr (Or.inl ⟨(by simp [b2_n0 c4, b2_n0 c11, b2_n0 c18, b2_n0 c29, b2_n0 c41, (cf_days c53 c60 c68).1, (cf_days c53 c60 c68).2]), nlt20 hc20 c99, hM⟩)⟩)
    exact absurd c81 (by decide)
  refine q_iload_n F 2 dX5_certify_7 rfl rfl ?_
  refine q_callS_i F (c_X5_isKey) gX5_certify_X5_isKey rfl hd_X5_isKey ⟨Nat.le_of_ble_eq_true rfl, Nat.le_of_ble_eq_true rfl⟩ rfl rfl (Nat.le_of_ble_eq_true rfl) dX5_certify_8 ⟨Nat.le_of_ble_eq_true rfl, Nat.le_of_ble_eq_true rfl⟩ ?_
  refine q_if_eq F 48 dX5_certify_11 rfl (fun c11 => ?_) (fun c11 => ?_)
  · refine q_iconst F dX5_certify_48 hc_0 ?_
    refine q_istore F dX5_certify_49 (by decide) rfl ?_
    refine q_iload F dX5_certify_51 rfl ?_
    refine q_if_lt F 75 dX5_certify_53 rfl (fun c53 => ?_) (fun c53 => ?_)
    · refine q_iconst F dX5_certify_75 hc_0 ?_
      refine q_istore F dX5_certify_76 (by decide) rfl ?_
      refine q_aload_n F 0 dX5_certify_78 rfl rfl ?_
      refine q_iload F dX5_certify_79 rfl ?_
      refine q_if_eq F 89 dX5_certify_81 rfl (fun c81 => ?_) (fun c81 => ?_)
      · refine q_iconst F dX5_certify_89 hc_1 ?_
        refine q_goto F 107 dX5_certify_90 rfl ?_
        refine q_callV_gi F (c_X5_holds hM) gX5_certify_X5_holds rfl hd_X5_holds ⟨Nat.le_of_ble_eq_true rfl, Nat.le_of_ble_eq_true rfl⟩ hM.1.1 rfl rfl rfl (Nat.le_of_ble_eq_true rfl) dX5_certify_107 ⟨Nat.le_of_ble_eq_true rfl, Nat.le_of_ble_eq_true rfl⟩ (fun r107 S107 hp107 => ?_)
        obtain ⟨rfl, hM, hm107⟩ := hp107
        have hm := hm.trans hm107
        refine q_cz ?_
        refine q_if_ne F 115 dX5_certify_110 rfl (fun c110 => ?_) (fun c110 => ?_)
        · exact absurd c110 (by decide)
        refine q_iconst F dX5_certify_113 hc_0 ?_
        exact (q_reti F hr rfl dX5_certify_114 (Nat.le_of_ble_eq_true rfl) (Nat.le_of_ble_eq_true rfl) ⟨_, rfl, hm, by first | exact Or.inl ⟨(by first | (simp [b2_0.mp c4]; done) | (simp [b2_0.mp c11]; done) | (simp [b2_0.mp c18]; done) | (simp [b2_0.mp c29]; done) | (simp [b2_0.mp c41]; done) | (simp [inR_f1 c53]; done) | (simp [inR_f1 c60]; done) | (simp [inR_f2 (Int32.not_le.mpr c68)]; done)), hM⟩ | exact Or.inr (Or.inl ⟨(by simp [b2_n0 c4, b2_n0 c11, b2_n0 c18, b2_n0 c29, b2_n0 c41, (cf_days c53 c60 c68).1, (cf_days c53 c60 c68).2]), nlt20 hc20 c99, hM⟩)⟩)
      exact absurd c81 (by decide)
    refine q_iload F dX5_certify_56 rfl ?_
    refine q_iload F dX5_certify_58 rfl ?_
    refine q_icmp_lt F 75 dX5_certify_60 rfl (fun c60 => ?_) (fun c60 => ?_)
    · refine q_iconst F dX5_certify_75 hc_0 ?_
      refine q_istore F dX5_certify_76 (by decide) rfl ?_
      refine q_aload_n F 0 dX5_certify_78 rfl rfl ?_
      refine q_iload F dX5_certify_79 rfl ?_
      refine q_if_eq F 89 dX5_certify_81 rfl (fun c81 => ?_) (fun c81 => ?_)
      · refine q_iconst F dX5_certify_89 hc_1 ?_
        refine q_goto F 107 dX5_certify_90 rfl ?_
        refine q_callV_gi F (c_X5_holds hM) gX5_certify_X5_holds rfl hd_X5_holds ⟨Nat.le_of_ble_eq_true rfl, Nat.le_of_ble_eq_true rfl⟩ hM.1.1 rfl rfl rfl (Nat.le_of_ble_eq_true rfl) dX5_certify_107 ⟨Nat.le_of_ble_eq_true rfl, Nat.le_of_ble_eq_true rfl⟩ (fun r107 S107 hp107 => ?_)
        obtain ⟨rfl, hM, hm107⟩ := hp107
        have hm := hm.trans hm107
        refine q_cz ?_
        refine q_if_ne F 115 dX5_certify_110 rfl (fun c110 => ?_) (fun c110 => ?_)
        · exact absurd c110 (by decide)
        refine q_iconst F dX5_certify_113 hc_0 ?_
        exact (q_reti F hr rfl dX5_certify_114 (Nat.le_of_ble_eq_true rfl) (Nat.le_of_ble_eq_true rfl) ⟨_, rfl, hm, by first | exact Or.inl ⟨(by first | (simp [b2_0.mp c4]; done) | (simp [b2_0.mp c11]; done) | (simp [b2_0.mp c18]; done) | (simp [b2_0.mp c29]; done) | (simp [b2_0.mp c41]; done) | (simp [inR_f1 c53]; done) | (simp [inR_f1 c60]; done) | (simp [inR_f2 (Int32.not_le.mpr c68)]; done)), hM⟩ | exact Or.inr (Or.inl ⟨(by simp [b2_n0 c4, b2_n0 c11, b2_n0 c18, b2_n0 c29, b2_n0 c41, (cf_days c53 c60 c68).1, (cf_days c53 c60 c68).2]), nlt20 hc20 c99, hM⟩)⟩)
      exact absurd c81 (by decide)
    refine q_iload F dX5_certify_63 rfl ?_
    refine q_sipush (v := 5000) F dX5_certify_65 (by decide) ?_
    refine q_icmp_gt F 75 dX5_certify_68 rfl (fun c68 => ?_) (fun c68 => ?_)
    · refine q_iconst F dX5_certify_75 hc_0 ?_
      refine q_istore F dX5_certify_76 (by decide) rfl ?_
      refine q_aload_n F 0 dX5_certify_78 rfl rfl ?_
      refine q_iload F dX5_certify_79 rfl ?_
      refine q_if_eq F 89 dX5_certify_81 rfl (fun c81 => ?_) (fun c81 => ?_)
      · refine q_iconst F dX5_certify_89 hc_1 ?_
        refine q_goto F 107 dX5_certify_90 rfl ?_
        refine q_callV_gi F (c_X5_holds hM) gX5_certify_X5_holds rfl hd_X5_holds ⟨Nat.le_of_ble_eq_true rfl, Nat.le_of_ble_eq_true rfl⟩ hM.1.1 rfl rfl rfl (Nat.le_of_ble_eq_true rfl) dX5_certify_107 ⟨Nat.le_of_ble_eq_true rfl, Nat.le_of_ble_eq_true rfl⟩ (fun r107 S107 hp107 => ?_)
        obtain ⟨rfl, hM, hm107⟩ := hp107
        have hm := hm.trans hm107
        refine q_cz ?_
        refine q_if_ne F 115 dX5_certify_110 rfl (fun c110 => ?_) (fun c110 => ?_)
        · exact absurd c110 (by decide)
        refine q_iconst F dX5_certify_113 hc_0 ?_
        exact (q_reti F hr rfl dX5_certify_114 (Nat.le_of_ble_eq_true rfl) (Nat.le_of_ble_eq_true rfl) ⟨_, rfl, hm, by first | exact Or.inl ⟨(by first | (simp [b2_0.mp c4]; done) | (simp [b2_0.mp c11]; done) | (simp [b2_0.mp c18]; done) | (simp [b2_0.mp c29]; done) | (simp [b2_0.mp c41]; done) | (simp [inR_f1 c53]; done) | (simp [inR_f1 c60]; done) | (simp [inR_f2 (Int32.not_le.mpr c68)]; done)), hM⟩ | exact Or.inr (Or.inl ⟨(by simp [b2_n0 c4, b2_n0 c11, b2_n0 c18, b2_n0 c29, b2_n0 c41, (cf_days c53 c60 c68).1, (cf_days c53 c60 c68).2]), nlt20 hc20 c99, hM⟩)⟩)
      exact absurd c81 (by decide)
    refine q_iconst F dX5_certify_71 hc_1 ?_
    refine q_goto F 76 dX5_certify_72 rfl ?_
    refine q_istore F dX5_certify_76 (by decide) rfl ?_
    refine q_aload_n F 0 dX5_certify_78 rfl rfl ?_
    refine q_iload F dX5_certify_79 rfl ?_
    refine q_if_eq F 89 dX5_certify_81 rfl (fun c81 => ?_) (fun c81 => ?_)
    · refine q_iconst F dX5_certify_89 hc_1 ?_
      refine q_goto F 107 dX5_certify_90 rfl ?_
      refine q_callV_gi F (c_X5_holds hM) gX5_certify_X5_holds rfl hd_X5_holds ⟨Nat.le_of_ble_eq_true rfl, Nat.le_of_ble_eq_true rfl⟩ hM.1.1 rfl rfl rfl (Nat.le_of_ble_eq_true rfl) dX5_certify_107 ⟨Nat.le_of_ble_eq_true rfl, Nat.le_of_ble_eq_true rfl⟩ (fun r107 S107 hp107 => ?_)
      obtain ⟨rfl, hM, hm107⟩ := hp107
      have hm := hm.trans hm107
      refine q_cz ?_
      refine q_if_ne F 115 dX5_certify_110 rfl (fun c110 => ?_) (fun c110 => ?_)
      · exact absurd c110 (by decide)
      refine q_iconst F dX5_certify_113 hc_0 ?_
      exact (q_reti F hr rfl dX5_certify_114 (Nat.le_of_ble_eq_true rfl) (Nat.le_of_ble_eq_true rfl) ⟨_, rfl, hm, by first | exact Or.inl ⟨(by first | (simp [b2_0.mp c4]; done) | (simp [b2_0.mp c11]; done) | (simp [b2_0.mp c18]; done) | (simp [b2_0.mp c29]; done) | (simp [b2_0.mp c41]; done) | (simp [inR_f1 c53]; done) | (simp [inR_f1 c60]; done) | (simp [inR_f2 (Int32.not_le.mpr c68)]; done)), hM⟩ | exact Or.inr (Or.inl ⟨(by simp [b2_n0 c4, b2_n0 c11, b2_n0 c18, b2_n0 c29, b2_n0 c41, (cf_days c53 c60 c68).1, (cf_days c53 c60 c68).2]), nlt20 hc20 c99, hM⟩)⟩)
    exact absurd c81 (by decide)
  refine q_iload_n F 3 dX5_certify_14 rfl rfl ?_
  refine q_callS_i F (c_X5_isName) gX5_certify_X5_isName rfl hd_X5_isName ⟨Nat.le_of_ble_eq_true rfl, Nat.le_of_ble_eq_true rfl⟩ rfl rfl (Nat.le_of_ble_eq_true rfl) dX5_certify_15 ⟨Nat.le_of_ble_eq_true rfl, Nat.le_of_ble_eq_true rfl⟩ ?_
  refine q_if_eq F 48 dX5_certify_18 rfl (fun c18 => ?_) (fun c18 => ?_)
  · refine q_iconst F dX5_certify_48 hc_0 ?_
    refine q_istore F dX5_certify_49 (by decide) rfl ?_
    refine q_iload F dX5_certify_51 rfl ?_
    refine q_if_lt F 75 dX5_certify_53 rfl (fun c53 => ?_) (fun c53 => ?_)
    · refine q_iconst F dX5_certify_75 hc_0 ?_
      refine q_istore F dX5_certify_76 (by decide) rfl ?_
      refine q_aload_n F 0 dX5_certify_78 rfl rfl ?_
      refine q_iload F dX5_certify_79 rfl ?_
      refine q_if_eq F 89 dX5_certify_81 rfl (fun c81 => ?_) (fun c81 => ?_)
      · refine q_iconst F dX5_certify_89 hc_1 ?_
        refine q_goto F 107 dX5_certify_90 rfl ?_
        refine q_callV_gi F (c_X5_holds hM) gX5_certify_X5_holds rfl hd_X5_holds ⟨Nat.le_of_ble_eq_true rfl, Nat.le_of_ble_eq_true rfl⟩ hM.1.1 rfl rfl rfl (Nat.le_of_ble_eq_true rfl) dX5_certify_107 ⟨Nat.le_of_ble_eq_true rfl, Nat.le_of_ble_eq_true rfl⟩ (fun r107 S107 hp107 => ?_)
        obtain ⟨rfl, hM, hm107⟩ := hp107
        have hm := hm.trans hm107
        refine q_cz ?_
        refine q_if_ne F 115 dX5_certify_110 rfl (fun c110 => ?_) (fun c110 => ?_)
        · exact absurd c110 (by decide)
        refine q_iconst F dX5_certify_113 hc_0 ?_
        exact (q_reti F hr rfl dX5_certify_114 (Nat.le_of_ble_eq_true rfl) (Nat.le_of_ble_eq_true rfl) ⟨_, rfl, hm, by first | exact Or.inl ⟨(by first | (simp [b2_0.mp c4]; done) | (simp [b2_0.mp c11]; done) | (simp [b2_0.mp c18]; done) | (simp [b2_0.mp c29]; done) | (simp [b2_0.mp c41]; done) | (simp [inR_f1 c53]; done) | (simp [inR_f1 c60]; done) | (simp [inR_f2 (Int32.not_le.mpr c68)]; done)), hM⟩ | exact Or.inr (Or.inl ⟨(by simp [b2_n0 c4, b2_n0 c11, b2_n0 c18, b2_n0 c29, b2_n0 c41, (cf_days c53 c60 c68).1, (cf_days c53 c60 c68).2]), nlt20 hc20 c99, hM⟩)⟩)
      exact absurd c81 (by decide)
    refine q_iload F dX5_certify_56 rfl ?_
    refine q_iload F dX5_certify_58 rfl ?_
    refine q_icmp_lt F 75 dX5_certify_60 rfl (fun c60 => ?_) (fun c60 => ?_)
    · refine q_iconst F dX5_certify_75 hc_0 ?_
      refine q_istore F dX5_certify_76 (by decide) rfl ?_
      refine q_aload_n F 0 dX5_certify_78 rfl rfl ?_
      refine q_iload F dX5_certify_79 rfl ?_
      refine q_if_eq F 89 dX5_certify_81 rfl (fun c81 => ?_) (fun c81 => ?_)
      · refine q_iconst F dX5_certify_89 hc_1 ?_
        refine q_goto F 107 dX5_certify_90 rfl ?_
        refine q_callV_gi F (c_X5_holds hM) gX5_certify_X5_holds rfl hd_X5_holds ⟨Nat.le_of_ble_eq_true rfl, Nat.le_of_ble_eq_true rfl⟩ hM.1.1 rfl rfl rfl (Nat.le_of_ble_eq_true rfl) dX5_certify_107 ⟨Nat.le_of_ble_eq_true rfl, Nat.le_of_ble_eq_true rfl⟩ (fun r107 S107 hp107 => ?_)
        obtain ⟨rfl, hM, hm107⟩ := hp107
        have hm := hm.trans hm107
        refine q_cz ?_
        refine q_if_ne F 115 dX5_certify_110 rfl (fun c110 => ?_) (fun c110 => ?_)
        · exact absurd c110 (by decide)
        refine q_iconst F dX5_certify_113 hc_0 ?_
        exact (q_reti F hr rfl dX5_certify_114 (Nat.le_of_ble_eq_true rfl) (Nat.le_of_ble_eq_true rfl) ⟨_, rfl, hm, by first | exact Or.inl ⟨(by first | (simp [b2_0.mp c4]; done) | (simp [b2_0.mp c11]; done) | (simp [b2_0.mp c18]; done) | (simp [b2_0.mp c29]; done) | (simp [b2_0.mp c41]; done) | (simp [inR_f1 c53]; done) | (simp [inR_f1 c60]; done) | (simp [inR_f2 (Int32.not_le.mpr c68)]; done)), hM⟩ | exact Or.inr (Or.inl ⟨(by simp [b2_n0 c4, b2_n0 c11, b2_n0 c18, b2_n0 c29, b2_n0 c41, (cf_days c53 c60 c68).1, (cf_days c53 c60 c68).2]), nlt20 hc20 c99, hM⟩)⟩)
      exact absurd c81 (by decide)
    refine q_iload F dX5_certify_63 rfl ?_
    refine q_sipush (v := 5000) F dX5_certify_65 (by decide) ?_
    refine q_icmp_gt F 75 dX5_certify_68 rfl (fun c68 => ?_) (fun c68 => ?_)
    · refine q_iconst F dX5_certify_75 hc_0 ?_
      refine q_istore F dX5_certify_76 (by decide) rfl ?_
      refine q_aload_n F 0 dX5_certify_78 rfl rfl ?_
      refine q_iload F dX5_certify_79 rfl ?_
      refine q_if_eq F 89 dX5_certify_81 rfl (fun c81 => ?_) (fun c81 => ?_)
      · refine q_iconst F dX5_certify_89 hc_1 ?_
        refine q_goto F 107 dX5_certify_90 rfl ?_
        refine q_callV_gi F (c_X5_holds hM) gX5_certify_X5_holds rfl hd_X5_holds ⟨Nat.le_of_ble_eq_true rfl, Nat.le_of_ble_eq_true rfl⟩ hM.1.1 rfl rfl rfl (Nat.le_of_ble_eq_true rfl) dX5_certify_107 ⟨Nat.le_of_ble_eq_true rfl, Nat.le_of_ble_eq_true rfl⟩ (fun r107 S107 hp107 => ?_)
        obtain ⟨rfl, hM, hm107⟩ := hp107
        have hm := hm.trans hm107
        refine q_cz ?_
        refine q_if_ne F 115 dX5_certify_110 rfl (fun c110 => ?_) (fun c110 => ?_)
        · exact absurd c110 (by decide)
        refine q_iconst F dX5_certify_113 hc_0 ?_
        exact (q_reti F hr rfl dX5_certify_114 (Nat.le_of_ble_eq_true rfl) (Nat.le_of_ble_eq_true rfl) ⟨_, rfl, hm, by first | exact Or.inl ⟨(by first | (simp [b2_0.mp c4]; done) | (simp [b2_0.mp c11]; done) | (simp [b2_0.mp c18]; done) | (simp [b2_0.mp c29]; done) | (simp [b2_0.mp c41]; done) | (simp [inR_f1 c53]; done) | (simp [inR_f1 c60]; done) | (simp [inR_f2 (Int32.not_le.mpr c68)]; done)), hM⟩ | exact Or.inr (Or.inl ⟨(by simp [b2_n0 c4, b2_n0 c11, b2_n0 c18, b2_n0 c29, b2_n0 c41, (cf_days c53 c60 c68).1, (cf_days c53 c60 c68).2]), nlt20 hc20 c99, hM⟩)⟩)
      exact absurd c81 (by decide)
    refine q_iconst F dX5_certify_71 hc_1 ?_
    refine q_goto F 76 dX5_certify_72 rfl ?_
    refine q_istore F dX5_certify_76 (by decide) rfl ?_
    refine q_aload_n F 0 dX5_certify_78 rfl rfl ?_
    refine q_iload F dX5_certify_79 rfl ?_
    refine q_if_eq F 89 dX5_certify_81 rfl (fun c81 => ?_) (fun c81 => ?_)
    · refine q_iconst F dX5_certify_89 hc_1 ?_
      refine q_goto F 107 dX5_certify_90 rfl ?_
      refine q_callV_gi F (c_X5_holds hM) gX5_certify_X5_holds rfl hd_X5_holds ⟨Nat.le_of_ble_eq_true rfl, Nat.le_of_ble_eq_true rfl⟩ hM.1.1 rfl rfl rfl (Nat.le_of_ble_eq_true rfl) dX5_certify_107 ⟨Nat.le_of_ble_eq_true rfl, Nat.le_of_ble_eq_true rfl⟩ (fun r107 S107 hp107 => ?_)
      obtain ⟨rfl, hM, hm107⟩ := hp107
      have hm := hm.trans hm107
      refine q_cz ?_
      refine q_if_ne F 115 dX5_certify_110 rfl (fun c110 => ?_) (fun c110 => ?_)
      · exact absurd c110 (by decide)
      refine q_iconst F dX5_certify_113 hc_0 ?_
      exact (q_reti F hr rfl dX5_certify_114 (Nat.le_of_ble_eq_true rfl) (Nat.le_of_ble_eq_true rfl) ⟨_, rfl, hm, by first | exact Or.inl ⟨(by first | (simp [b2_0.mp c4]; done) | (simp [b2_0.mp c11]; done) | (simp [b2_0.mp c18]; done) | (simp [b2_0.mp c29]; done) | (simp [b2_0.mp c41]; done) | (simp [inR_f1 c53]; done) | (simp [inR_f1 c60]; done) | (simp [inR_f2 (Int32.not_le.mpr c68)]; done)), hM⟩ | exact Or.inr (Or.inl ⟨(by simp [b2_n0 c4, b2_n0 c11, b2_n0 c18, b2_n0 c29, b2_n0 c41, (cf_days c53 c60 c68).1, (cf_days c53 c60 c68).2]), nlt20 hc20 c99, hM⟩)⟩)
    exact absurd c81 (by decide)
  refine q_iload F dX5_certify_21 rfl ?_
  refine q_iconst F dX5_certify_23 hc_0 ?_
  refine q_bipush (v := 15) F dX5_certify_24 (by decide) ?_
  refine q_callS_i F (c_X5_isIn) gX5_certify_X5_isIn rfl hd_X5_isIn ⟨Nat.le_of_ble_eq_true rfl, Nat.le_of_ble_eq_true rfl⟩ rfl rfl (Nat.le_of_ble_eq_true rfl) dX5_certify_26 ⟨Nat.le_of_ble_eq_true rfl, Nat.le_of_ble_eq_true rfl⟩ ?_
  refine q_if_eq F 48 dX5_certify_29 rfl (fun c29 => ?_) (fun c29 => ?_)
  · refine q_iconst F dX5_certify_48 hc_0 ?_
    refine q_istore F dX5_certify_49 (by decide) rfl ?_
    refine q_iload F dX5_certify_51 rfl ?_
    refine q_if_lt F 75 dX5_certify_53 rfl (fun c53 => ?_) (fun c53 => ?_)
    · refine q_iconst F dX5_certify_75 hc_0 ?_
      refine q_istore F dX5_certify_76 (by decide) rfl ?_
      refine q_aload_n F 0 dX5_certify_78 rfl rfl ?_
      refine q_iload F dX5_certify_79 rfl ?_
      refine q_if_eq F 89 dX5_certify_81 rfl (fun c81 => ?_) (fun c81 => ?_)
      · refine q_iconst F dX5_certify_89 hc_1 ?_
        refine q_goto F 107 dX5_certify_90 rfl ?_
        refine q_callV_gi F (c_X5_holds hM) gX5_certify_X5_holds rfl hd_X5_holds ⟨Nat.le_of_ble_eq_true rfl, Nat.le_of_ble_eq_true rfl⟩ hM.1.1 rfl rfl rfl (Nat.le_of_ble_eq_true rfl) dX5_certify_107 ⟨Nat.le_of_ble_eq_true rfl, Nat.le_of_ble_eq_true rfl⟩ (fun r107 S107 hp107 => ?_)
        obtain ⟨rfl, hM, hm107⟩ := hp107
        have hm := hm.trans hm107
        refine q_cz ?_
        refine q_if_ne F 115 dX5_certify_110 rfl (fun c110 => ?_) (fun c110 => ?_)
        · exact absurd c110 (by decide)
        refine q_iconst F dX5_certify_113 hc_0 ?_
        exact (q_reti F hr rfl dX5_certify_114 (Nat.le_of_ble_eq_true rfl) (Nat.le_of_ble_eq_true rfl) ⟨_, rfl, hm, by first | exact Or.inl ⟨(by first | (simp [b2_0.mp c4]; done) | (simp [b2_0.mp c11]; done) | (simp [b2_0.mp c18]; done) | (simp [b2_0.mp c29]; done) | (simp [b2_0.mp c41]; done) | (simp [inR_f1 c53]; done) | (simp [inR_f1 c60]; done) | (simp [inR_f2 (Int32.not_le.mpr c68)]; done)), hM⟩ | exact Or.inr (Or.inl ⟨(by simp [b2_n0 c4, b2_n0 c11, b2_n0 c18, b2_n0 c29, b2_n0 c41, (cf_days c53 c60 c68).1, (cf_days c53 c60 c68).2]), nlt20 hc20 c99, hM⟩)⟩)
      exact absurd c81 (by decide)
    refine q_iload F dX5_certify_56 rfl ?_
    refine q_iload F dX5_certify_58 rfl ?_
    refine q_icmp_lt F 75 dX5_certify_60 rfl (fun c60 => ?_) (fun c60 => ?_)
    · refine q_iconst F dX5_certify_75 hc_0 ?_
      refine q_istore F dX5_certify_76 (by decide) rfl ?_
      refine q_aload_n F 0 dX5_certify_78 rfl rfl ?_
      refine q_iload F dX5_certify_79 rfl ?_
      refine q_if_eq F 89 dX5_certify_81 rfl (fun c81 => ?_) (fun c81 => ?_)
      · refine q_iconst F dX5_certify_89 hc_1 ?_
        refine q_goto F 107 dX5_certify_90 rfl ?_
        refine q_callV_gi F (c_X5_holds hM) gX5_certify_X5_holds rfl hd_X5_holds ⟨Nat.le_of_ble_eq_true rfl, Nat.le_of_ble_eq_true rfl⟩ hM.1.1 rfl rfl rfl (Nat.le_of_ble_eq_true rfl) dX5_certify_107 ⟨Nat.le_of_ble_eq_true rfl, Nat.le_of_ble_eq_true rfl⟩ (fun r107 S107 hp107 => ?_)
        obtain ⟨rfl, hM, hm107⟩ := hp107
        have hm := hm.trans hm107
        refine q_cz ?_
        refine q_if_ne F 115 dX5_certify_110 rfl (fun c110 => ?_) (fun c110 => ?_)
        · exact absurd c110 (by decide)
        refine q_iconst F dX5_certify_113 hc_0 ?_
        exact (q_reti F hr rfl dX5_certify_114 (Nat.le_of_ble_eq_true rfl) (Nat.le_of_ble_eq_true rfl) ⟨_, rfl, hm, by first | exact Or.inl ⟨(by first | (simp [b2_0.mp c4]; done) | (simp [b2_0.mp c11]; done) | (simp [b2_0.mp c18]; done) | (simp [b2_0.mp c29]; done) | (simp [b2_0.mp c41]; done) | (simp [inR_f1 c53]; done) | (simp [inR_f1 c60]; done) | (simp [inR_f2 (Int32.not_le.mpr c68)]; done)), hM⟩ | exact Or.inr (Or.inl ⟨(by simp [b2_n0 c4, b2_n0 c11, b2_n0 c18, b2_n0 c29, b2_n0 c41, (cf_days c53 c60 c68).1, (cf_days c53 c60 c68).2]), nlt20 hc20 c99, hM⟩)⟩)
      exact absurd c81 (by decide)
    refine q_iload F dX5_certify_63 rfl ?_
    refine q_sipush (v := 5000) F dX5_certify_65 (by decide) ?_
    refine q_icmp_gt F 75 dX5_certify_68 rfl (fun c68 => ?_) (fun c68 => ?_)
    · refine q_iconst F dX5_certify_75 hc_0 ?_
      refine q_istore F dX5_certify_76 (by decide) rfl ?_
      refine q_aload_n F 0 dX5_certify_78 rfl rfl ?_
      refine q_iload F dX5_certify_79 rfl ?_
      refine q_if_eq F 89 dX5_certify_81 rfl (fun c81 => ?_) (fun c81 => ?_)
      · refine q_iconst F dX5_certify_89 hc_1 ?_
        refine q_goto F 107 dX5_certify_90 rfl ?_
        refine q_callV_gi F (c_X5_holds hM) gX5_certify_X5_holds rfl hd_X5_holds ⟨Nat.le_of_ble_eq_true rfl, Nat.le_of_ble_eq_true rfl⟩ hM.1.1 rfl rfl rfl (Nat.le_of_ble_eq_true rfl) dX5_certify_107 ⟨Nat.le_of_ble_eq_true rfl, Nat.le_of_ble_eq_true rfl⟩ (fun r107 S107 hp107 => ?_)
        obtain ⟨rfl, hM, hm107⟩ := hp107
        have hm := hm.trans hm107
        refine q_cz ?_
        refine q_if_ne F 115 dX5_certify_110 rfl (fun c110 => ?_) (fun c110 => ?_)
        · exact absurd c110 (by decide)
        refine q_iconst F dX5_certify_113 hc_0 ?_
        exact (q_reti F hr rfl dX5_certify_114 (Nat.le_of_ble_eq_true rfl) (Nat.le_of_ble_eq_true rfl) ⟨_, rfl, hm, by first | exact Or.inl ⟨(by first | (simp [b2_0.mp c4]; done) | (simp [b2_0.mp c11]; done) | (simp [b2_0.mp c18]; done) | (simp [b2_0.mp c29]; done) | (simp [b2_0.mp c41]; done) | (simp [inR_f1 c53]; done) | (simp [inR_f1 c60]; done) | (simp [inR_f2 (Int32.not_le.mpr c68)]; done)), hM⟩ | exact Or.inr (Or.inl ⟨(by simp [b2_n0 c4, b2_n0 c11, b2_n0 c18, b2_n0 c29, b2_n0 c41, (cf_days c53 c60 c68).1, (cf_days c53 c60 c68).2]), nlt20 hc20 c99, hM⟩)⟩)
      exact absurd c81 (by decide)
    refine q_iconst F dX5_certify_71 hc_1 ?_
    refine q_goto F 76 dX5_certify_72 rfl ?_
    refine q_istore F dX5_certify_76 (by decide) rfl ?_
    refine q_aload_n F 0 dX5_certify_78 rfl rfl ?_
    refine q_iload F dX5_certify_79 rfl ?_
    refine q_if_eq F 89 dX5_certify_81 rfl (fun c81 => ?_) (fun c81 => ?_)
    · refine q_iconst F dX5_certify_89 hc_1 ?_
      refine q_goto F 107 dX5_certify_90 rfl ?_
      refine q_callV_gi F (c_X5_holds hM) gX5_certify_X5_holds rfl hd_X5_holds ⟨Nat.le_of_ble_eq_true rfl, Nat.le_of_ble_eq_true rfl⟩ hM.1.1 rfl rfl rfl (Nat.le_of_ble_eq_true rfl) dX5_certify_107 ⟨Nat.le_of_ble_eq_true rfl, Nat.le_of_ble_eq_true rfl⟩ (fun r107 S107 hp107 => ?_)
      obtain ⟨rfl, hM, hm107⟩ := hp107
      have hm := hm.trans hm107
      refine q_cz ?_
      refine q_if_ne F 115 dX5_certify_110 rfl (fun c110 => ?_) (fun c110 => ?_)
      · exact absurd c110 (by decide)
      refine q_iconst F dX5_certify_113 hc_0 ?_
      exact (q_reti F hr rfl dX5_certify_114 (Nat.le_of_ble_eq_true rfl) (Nat.le_of_ble_eq_true rfl) ⟨_, rfl, hm, by first | exact Or.inl ⟨(by first | (simp [b2_0.mp c4]; done) | (simp [b2_0.mp c11]; done) | (simp [b2_0.mp c18]; done) | (simp [b2_0.mp c29]; done) | (simp [b2_0.mp c41]; done) | (simp [inR_f1 c53]; done) | (simp [inR_f1 c60]; done) | (simp [inR_f2 (Int32.not_le.mpr c68)]; done)), hM⟩ | exact Or.inr (Or.inl ⟨(by simp [b2_n0 c4, b2_n0 c11, b2_n0 c18, b2_n0 c29, b2_n0 c41, (cf_days c53 c60 c68).1, (cf_days c53 c60 c68).2]), nlt20 hc20 c99, hM⟩)⟩)
    exact absurd c81 (by decide)
  refine q_iload F dX5_certify_32 rfl ?_
  refine q_iconst F dX5_certify_34 hc_0 ?_
  refine q_sipush (v := 999) F dX5_certify_35 (by decide) ?_
  refine q_callS_i F (c_X5_isIn) gX5_certify_X5_isIn rfl hd_X5_isIn ⟨Nat.le_of_ble_eq_true rfl, Nat.le_of_ble_eq_true rfl⟩ rfl rfl (Nat.le_of_ble_eq_true rfl) dX5_certify_38 ⟨Nat.le_of_ble_eq_true rfl, Nat.le_of_ble_eq_true rfl⟩ ?_
  refine q_if_eq F 48 dX5_certify_41 rfl (fun c41 => ?_) (fun c41 => ?_)
  · refine q_iconst F dX5_certify_48 hc_0 ?_
    refine q_istore F dX5_certify_49 (by decide) rfl ?_
    refine q_iload F dX5_certify_51 rfl ?_
    refine q_if_lt F 75 dX5_certify_53 rfl (fun c53 => ?_) (fun c53 => ?_)
    · refine q_iconst F dX5_certify_75 hc_0 ?_
      refine q_istore F dX5_certify_76 (by decide) rfl ?_
      refine q_aload_n F 0 dX5_certify_78 rfl rfl ?_
      refine q_iload F dX5_certify_79 rfl ?_
      refine q_if_eq F 89 dX5_certify_81 rfl (fun c81 => ?_) (fun c81 => ?_)
      · refine q_iconst F dX5_certify_89 hc_1 ?_
        refine q_goto F 107 dX5_certify_90 rfl ?_
        refine q_callV_gi F (c_X5_holds hM) gX5_certify_X5_holds rfl hd_X5_holds ⟨Nat.le_of_ble_eq_true rfl, Nat.le_of_ble_eq_true rfl⟩ hM.1.1 rfl rfl rfl (Nat.le_of_ble_eq_true rfl) dX5_certify_107 ⟨Nat.le_of_ble_eq_true rfl, Nat.le_of_ble_eq_true rfl⟩ (fun r107 S107 hp107 => ?_)
        obtain ⟨rfl, hM, hm107⟩ := hp107
        have hm := hm.trans hm107
        refine q_cz ?_
        refine q_if_ne F 115 dX5_certify_110 rfl (fun c110 => ?_) (fun c110 => ?_)
        · exact absurd c110 (by decide)
        refine q_iconst F dX5_certify_113 hc_0 ?_
        exact (q_reti F hr rfl dX5_certify_114 (Nat.le_of_ble_eq_true rfl) (Nat.le_of_ble_eq_true rfl) ⟨_, rfl, hm, by first | exact Or.inl ⟨(by first | (simp [b2_0.mp c4]; done) | (simp [b2_0.mp c11]; done) | (simp [b2_0.mp c18]; done) | (simp [b2_0.mp c29]; done) | (simp [b2_0.mp c41]; done) | (simp [inR_f1 c53]; done) | (simp [inR_f1 c60]; done) | (simp [inR_f2 (Int32.not_le.mpr c68)]; done)), hM⟩ | exact Or.inr (Or.inl ⟨(by simp [b2_n0 c4, b2_n0 c11, b2_n0 c18, b2_n0 c29, b2_n0 c41, (cf_days c53 c60 c68).1, (cf_days c53 c60 c68).2]), nlt20 hc20 c99, hM⟩)⟩)
      exact absurd c81 (by decide)
    refine q_iload F dX5_certify_56 rfl ?_
    refine q_iload F dX5_certify_58 rfl ?_
    refine q_icmp_lt F 75 dX5_certify_60 rfl (fun c60 => ?_) (fun c60 => ?_)
    · refine q_iconst F dX5_certify_75 hc_0 ?_
      refine q_istore F dX5_certify_76 (by decide) rfl ?_
      refine q_aload_n F 0 dX5_certify_78 rfl rfl ?_
      refine q_iload F dX5_certify_79 rfl ?_
      refine q_if_eq F 89 dX5_certify_81 rfl (fun c81 => ?_) (fun c81 => ?_)
      · refine q_iconst F dX5_certify_89 hc_1 ?_
        refine q_goto F 107 dX5_certify_90 rfl ?_
        refine q_callV_gi F (c_X5_holds hM) gX5_certify_X5_holds rfl hd_X5_holds ⟨Nat.le_of_ble_eq_true rfl, Nat.le_of_ble_eq_true rfl⟩ hM.1.1 rfl rfl rfl (Nat.le_of_ble_eq_true rfl) dX5_certify_107 ⟨Nat.le_of_ble_eq_true rfl, Nat.le_of_ble_eq_true rfl⟩ (fun r107 S107 hp107 => ?_)
        obtain ⟨rfl, hM, hm107⟩ := hp107
        have hm := hm.trans hm107
        refine q_cz ?_
        refine q_if_ne F 115 dX5_certify_110 rfl (fun c110 => ?_) (fun c110 => ?_)
        · exact absurd c110 (by decide)
        refine q_iconst F dX5_certify_113 hc_0 ?_
        exact (q_reti F hr rfl dX5_certify_114 (Nat.le_of_ble_eq_true rfl) (Nat.le_of_ble_eq_true rfl) ⟨_, rfl, hm, by first | exact Or.inl ⟨(by first | (simp [b2_0.mp c4]; done) | (simp [b2_0.mp c11]; done) | (simp [b2_0.mp c18]; done) | (simp [b2_0.mp c29]; done) | (simp [b2_0.mp c41]; done) | (simp [inR_f1 c53]; done) | (simp [inR_f1 c60]; done) | (simp [inR_f2 (Int32.not_le.mpr c68)]; done)), hM⟩ | exact Or.inr (Or.inl ⟨(by simp [b2_n0 c4, b2_n0 c11, b2_n0 c18, b2_n0 c29, b2_n0 c41, (cf_days c53 c60 c68).1, (cf_days c53 c60 c68).2]), nlt20 hc20 c99, hM⟩)⟩)
      exact absurd c81 (by decide)
    refine q_iload F dX5_certify_63 rfl ?_
    refine q_sipush (v := 5000) F dX5_certify_65 (by decide) ?_
    refine q_icmp_gt F 75 dX5_certify_68 rfl (fun c68 => ?_) (fun c68 => ?_)
    · refine q_iconst F dX5_certify_75 hc_0 ?_
      refine q_istore F dX5_certify_76 (by decide) rfl ?_
      refine q_aload_n F 0 dX5_certify_78 rfl rfl ?_
      refine q_iload F dX5_certify_79 rfl ?_
      refine q_if_eq F 89 dX5_certify_81 rfl (fun c81 => ?_) (fun c81 => ?_)
      · refine q_iconst F dX5_certify_89 hc_1 ?_
        refine q_goto F 107 dX5_certify_90 rfl ?_
        refine q_callV_gi F (c_X5_holds hM) gX5_certify_X5_holds rfl hd_X5_holds ⟨Nat.le_of_ble_eq_true rfl, Nat.le_of_ble_eq_true rfl⟩ hM.1.1 rfl rfl rfl (Nat.le_of_ble_eq_true rfl) dX5_certify_107 ⟨Nat.le_of_ble_eq_true rfl, Nat.le_of_ble_eq_true rfl⟩ (fun r107 S107 hp107 => ?_)
        obtain ⟨rfl, hM, hm107⟩ := hp107
        have hm := hm.trans hm107
        refine q_cz ?_
        refine q_if_ne F 115 dX5_certify_110 rfl (fun c110 => ?_) (fun c110 => ?_)
        · exact absurd c110 (by decide)
        refine q_iconst F dX5_certify_113 hc_0 ?_
        exact (q_reti F hr rfl dX5_certify_114 (Nat.le_of_ble_eq_true rfl) (Nat.le_of_ble_eq_true rfl) ⟨_, rfl, hm, by first | exact Or.inl ⟨(by first | (simp [b2_0.mp c4]; done) | (simp [b2_0.mp c11]; done) | (simp [b2_0.mp c18]; done) | (simp [b2_0.mp c29]; done) | (simp [b2_0.mp c41]; done) | (simp [inR_f1 c53]; done) | (simp [inR_f1 c60]; done) | (simp [inR_f2 (Int32.not_le.mpr c68)]; done)), hM⟩ | exact Or.inr (Or.inl ⟨(by simp [b2_n0 c4, b2_n0 c11, b2_n0 c18, b2_n0 c29, b2_n0 c41, (cf_days c53 c60 c68).1, (cf_days c53 c60 c68).2]), nlt20 hc20 c99, hM⟩)⟩)
      exact absurd c81 (by decide)
    refine q_iconst F dX5_certify_71 hc_1 ?_
    refine q_goto F 76 dX5_certify_72 rfl ?_
    refine q_istore F dX5_certify_76 (by decide) rfl ?_
    refine q_aload_n F 0 dX5_certify_78 rfl rfl ?_
    refine q_iload F dX5_certify_79 rfl ?_
    refine q_if_eq F 89 dX5_certify_81 rfl (fun c81 => ?_) (fun c81 => ?_)
    · refine q_iconst F dX5_certify_89 hc_1 ?_
      refine q_goto F 107 dX5_certify_90 rfl ?_
      refine q_callV_gi F (c_X5_holds hM) gX5_certify_X5_holds rfl hd_X5_holds ⟨Nat.le_of_ble_eq_true rfl, Nat.le_of_ble_eq_true rfl⟩ hM.1.1 rfl rfl rfl (Nat.le_of_ble_eq_true rfl) dX5_certify_107 ⟨Nat.le_of_ble_eq_true rfl, Nat.le_of_ble_eq_true rfl⟩ (fun r107 S107 hp107 => ?_)
      obtain ⟨rfl, hM, hm107⟩ := hp107
      have hm := hm.trans hm107
      refine q_cz ?_
      refine q_if_ne F 115 dX5_certify_110 rfl (fun c110 => ?_) (fun c110 => ?_)
      · exact absurd c110 (by decide)
      refine q_iconst F dX5_certify_113 hc_0 ?_
      exact (q_reti F hr rfl dX5_certify_114 (Nat.le_of_ble_eq_true rfl) (Nat.le_of_ble_eq_true rfl) ⟨_, rfl, hm, by first | exact Or.inl ⟨(by first | (simp [b2_0.mp c4]; done) | (simp [b2_0.mp c11]; done) | (simp [b2_0.mp c18]; done) | (simp [b2_0.mp c29]; done) | (simp [b2_0.mp c41]; done) | (simp [inR_f1 c53]; done) | (simp [inR_f1 c60]; done) | (simp [inR_f2 (Int32.not_le.mpr c68)]; done)), hM⟩ | exact Or.inr (Or.inl ⟨(by simp [b2_n0 c4, b2_n0 c11, b2_n0 c18, b2_n0 c29, b2_n0 c41, (cf_days c53 c60 c68).1, (cf_days c53 c60 c68).2]), nlt20 hc20 c99, hM⟩)⟩)
    exact absurd c81 (by decide)
  refine q_iconst F dX5_certify_44 hc_1 ?_
  refine q_goto F 49 dX5_certify_45 rfl ?_
  refine q_istore F dX5_certify_49 (by decide) rfl ?_
  refine q_iload F dX5_certify_51 rfl ?_
  refine q_if_lt F 75 dX5_certify_53 rfl (fun c53 => ?_) (fun c53 => ?_)
  · refine q_iconst F dX5_certify_75 hc_0 ?_
    refine q_istore F dX5_certify_76 (by decide) rfl ?_
    refine q_aload_n F 0 dX5_certify_78 rfl rfl ?_
    refine q_iload F dX5_certify_79 rfl ?_
    refine q_if_eq F 89 dX5_certify_81 rfl (fun c81 => ?_) (fun c81 => ?_)
    · exact absurd c81 (by decide)
    refine q_iload F dX5_certify_84 rfl ?_
    refine q_if_ne F 93 dX5_certify_86 rfl (fun c86 => ?_) (fun c86 => ?_)
    · exact absurd c86 (by decide)
    refine q_iconst F dX5_certify_89 hc_1 ?_
    refine q_goto F 107 dX5_certify_90 rfl ?_
    refine q_callV_gi F (c_X5_holds hM) gX5_certify_X5_holds rfl hd_X5_holds ⟨Nat.le_of_ble_eq_true rfl, Nat.le_of_ble_eq_true rfl⟩ hM.1.1 rfl rfl rfl (Nat.le_of_ble_eq_true rfl) dX5_certify_107 ⟨Nat.le_of_ble_eq_true rfl, Nat.le_of_ble_eq_true rfl⟩ (fun r107 S107 hp107 => ?_)
    obtain ⟨rfl, hM, hm107⟩ := hp107
    have hm := hm.trans hm107
    refine q_cz ?_
    refine q_if_ne F 115 dX5_certify_110 rfl (fun c110 => ?_) (fun c110 => ?_)
    · exact absurd c110 (by decide)
    refine q_iconst F dX5_certify_113 hc_0 ?_
    exact (q_reti F hr rfl dX5_certify_114 (Nat.le_of_ble_eq_true rfl) (Nat.le_of_ble_eq_true rfl) ⟨_, rfl, hm, by first | exact Or.inl ⟨(by first | (simp [b2_0.mp c4]; done) | (simp [b2_0.mp c11]; done) | (simp [b2_0.mp c18]; done) | (simp [b2_0.mp c29]; done) | (simp [b2_0.mp c41]; done) | (simp [inR_f1 c53]; done) | (simp [inR_f1 c60]; done) | (simp [inR_f2 (Int32.not_le.mpr c68)]; done)), hM⟩ | exact Or.inr (Or.inl ⟨(by simp [b2_n0 c4, b2_n0 c11, b2_n0 c18, b2_n0 c29, b2_n0 c41, (cf_days c53 c60 c68).1, (cf_days c53 c60 c68).2]), nlt20 hc20 c99, hM⟩)⟩)
  refine q_iload F dX5_certify_56 rfl ?_
  refine q_iload F dX5_certify_58 rfl ?_
  refine q_icmp_lt F 75 dX5_certify_60 rfl (fun c60 => ?_) (fun c60 => ?_)
  · refine q_iconst F dX5_certify_75 hc_0 ?_
    refine q_istore F dX5_certify_76 (by decide) rfl ?_
    refine q_aload_n F 0 dX5_certify_78 rfl rfl ?_
    refine q_iload F dX5_certify_79 rfl ?_
    refine q_if_eq F 89 dX5_certify_81 rfl (fun c81 => ?_) (fun c81 => ?_)
    · exact absurd c81 (by decide)
    refine q_iload F dX5_certify_84 rfl ?_
    refine q_if_ne F 93 dX5_certify_86 rfl (fun c86 => ?_) (fun c86 => ?_)
    · exact absurd c86 (by decide)
    refine q_iconst F dX5_certify_89 hc_1 ?_
    refine q_goto F 107 dX5_certify_90 rfl ?_
    refine q_callV_gi F (c_X5_holds hM) gX5_certify_X5_holds rfl hd_X5_holds ⟨Nat.le_of_ble_eq_true rfl, Nat.le_of_ble_eq_true rfl⟩ hM.1.1 rfl rfl rfl (Nat.le_of_ble_eq_true rfl) dX5_certify_107 ⟨Nat.le_of_ble_eq_true rfl, Nat.le_of_ble_eq_true rfl⟩ (fun r107 S107 hp107 => ?_)
    obtain ⟨rfl, hM, hm107⟩ := hp107
    have hm := hm.trans hm107
    refine q_cz ?_
    refine q_if_ne F 115 dX5_certify_110 rfl (fun c110 => ?_) (fun c110 => ?_)
    · exact absurd c110 (by decide)
    refine q_iconst F dX5_certify_113 hc_0 ?_
    exact (q_reti F hr rfl dX5_certify_114 (Nat.le_of_ble_eq_true rfl) (Nat.le_of_ble_eq_true rfl) ⟨_, rfl, hm, by first | exact Or.inl ⟨(by first | (simp [b2_0.mp c4]; done) | (simp [b2_0.mp c11]; done) | (simp [b2_0.mp c18]; done) | (simp [b2_0.mp c29]; done) | (simp [b2_0.mp c41]; done) | (simp [inR_f1 c53]; done) | (simp [inR_f1 c60]; done) | (simp [inR_f2 (Int32.not_le.mpr c68)]; done)), hM⟩ | exact Or.inr (Or.inl ⟨(by simp [b2_n0 c4, b2_n0 c11, b2_n0 c18, b2_n0 c29, b2_n0 c41, (cf_days c53 c60 c68).1, (cf_days c53 c60 c68).2]), nlt20 hc20 c99, hM⟩)⟩)
  refine q_iload F dX5_certify_63 rfl ?_
  refine q_sipush (v := 5000) F dX5_certify_65 (by decide) ?_
  refine q_icmp_gt F 75 dX5_certify_68 rfl (fun c68 => ?_) (fun c68 => ?_)
  · refine q_iconst F dX5_certify_75 hc_0 ?_
    refine q_istore F dX5_certify_76 (by decide) rfl ?_
    refine q_aload_n F 0 dX5_certify_78 rfl rfl ?_
    refine q_iload F dX5_certify_79 rfl ?_
    refine q_if_eq F 89 dX5_certify_81 rfl (fun c81 => ?_) (fun c81 => ?_)
    · exact absurd c81 (by decide)
    refine q_iload F dX5_certify_84 rfl ?_
    refine q_if_ne F 93 dX5_certify_86 rfl (fun c86 => ?_) (fun c86 => ?_)
    · exact absurd c86 (by decide)
    refine q_iconst F dX5_certify_89 hc_1 ?_
    refine q_goto F 107 dX5_certify_90 rfl ?_
    refine q_callV_gi F (c_X5_holds hM) gX5_certify_X5_holds rfl hd_X5_holds ⟨Nat.le_of_ble_eq_true rfl, Nat.le_of_ble_eq_true rfl⟩ hM.1.1 rfl rfl rfl (Nat.le_of_ble_eq_true rfl) dX5_certify_107 ⟨Nat.le_of_ble_eq_true rfl, Nat.le_of_ble_eq_true rfl⟩ (fun r107 S107 hp107 => ?_)
    obtain ⟨rfl, hM, hm107⟩ := hp107
    have hm := hm.trans hm107
    refine q_cz ?_
    refine q_if_ne F 115 dX5_certify_110 rfl (fun c110 => ?_) (fun c110 => ?_)
    · exact absurd c110 (by decide)
    refine q_iconst F dX5_certify_113 hc_0 ?_
    exact (q_reti F hr rfl dX5_certify_114 (Nat.le_of_ble_eq_true rfl) (Nat.le_of_ble_eq_true rfl) ⟨_, rfl, hm, by first | exact Or.inl ⟨(by first | (simp [b2_0.mp c4]; done) | (simp [b2_0.mp c11]; done) | (simp [b2_0.mp c18]; done) | (simp [b2_0.mp c29]; done) | (simp [b2_0.mp c41]; done) | (simp [inR_f1 c53]; done) | (simp [inR_f1 c60]; done) | (simp [inR_f2 (Int32.not_le.mpr c68)]; done)), hM⟩ | exact Or.inr (Or.inl ⟨(by simp [b2_n0 c4, b2_n0 c11, b2_n0 c18, b2_n0 c29, b2_n0 c41, (cf_days c53 c60 c68).1, (cf_days c53 c60 c68).2]), nlt20 hc20 c99, hM⟩)⟩)
  refine q_iconst F dX5_certify_71 hc_1 ?_
  refine q_goto F 76 dX5_certify_72 rfl ?_
  refine q_istore F dX5_certify_76 (by decide) rfl ?_
  refine q_aload_n F 0 dX5_certify_78 rfl rfl ?_
  refine q_iload F dX5_certify_79 rfl ?_
  refine q_if_eq F 89 dX5_certify_81 rfl (fun c81 => ?_) (fun c81 => ?_)
  · exact absurd c81 (by decide)
  refine q_iload F dX5_certify_84 rfl ?_
  refine q_if_ne F 93 dX5_certify_86 rfl (fun c86 => ?_) (fun c86 => ?_)
  · refine q_aload_n F 0 dX5_certify_93 rfl rfl ?_
    refine qg_X5_142 F hM.1.1 dX5_certify_94 ?_
    refine q_mg 17 (nI nc) rfl hM hc ?_
    refine q_bipush (v := 20) F dX5_certify_97 (by decide) ?_
    refine q_icmp_ne F 106 dX5_certify_99 rfl (fun c99 => ?_) (fun c99 => ?_)
    · refine q_iconst F dX5_certify_106 hc_0 ?_
      refine q_callV_gi F (c_X5_holds hM) gX5_certify_X5_holds rfl hd_X5_holds ⟨Nat.le_of_ble_eq_true rfl, Nat.le_of_ble_eq_true rfl⟩ hM.1.1 rfl rfl rfl (Nat.le_of_ble_eq_true rfl) dX5_certify_107 ⟨Nat.le_of_ble_eq_true rfl, Nat.le_of_ble_eq_true rfl⟩ (fun r107 S107 hp107 => ?_)
      obtain ⟨rfl, hM, hm107⟩ := hp107
      have hm := hm.trans hm107
      refine q_cz ?_
      refine q_if_ne F 115 dX5_certify_110 rfl (fun c110 => ?_) (fun c110 => ?_)
      · have hlt := ylt20 hc20 c99
        refine q_aload_n F 0 dX5_certify_115 rfl rfl ?_
        refine qg_X5_51 F (hM.1.2.1 18 rfl).1 hM.1.1 dX5_certify_116 ?_
        refine q_aload_n F 0 dX5_certify_119 rfl rfl ?_
        refine qg_X5_142 F hM.1.1 dX5_certify_120 ?_
        refine q_mg 17 (nI nc) rfl hM hc ?_
        refine q_iload_n F 1 dX5_certify_123 rfl rfl ?_
        refine q_iast F (hM.1.2.1 18 rfl).2.1 (hM.1.2.1 18 rfl).2.2 rfl hlt (by decide) dX5_certify_124 ?_
        refine q_mA 18 rfl hM hm (fun S124 hM hm => ?_)
        refine q_aload_n F 0 dX5_certify_125 rfl rfl ?_
        refine qg_X5_54 F (hM.1.2.1 19 rfl).1 hM.1.1 dX5_certify_126 ?_
        refine q_aload_n F 0 dX5_certify_129 rfl rfl ?_
        refine qg_X5_142 F hM.1.1 dX5_certify_130 ?_
        refine q_mg 17 (nI nc) rfl hM hc ?_
        refine q_iload_n F 2 dX5_certify_133 rfl rfl ?_
        refine q_iast F (hM.1.2.1 19 rfl).2.1 (hM.1.2.1 19 rfl).2.2 rfl hlt (by decide) dX5_certify_134 ?_
        refine q_mA 19 rfl hM hm (fun S134 hM hm => ?_)
        refine q_aload_n F 0 dX5_certify_135 rfl rfl ?_
        refine qg_X5_57 F (hM.1.2.1 20 rfl).1 hM.1.1 dX5_certify_136 ?_
        refine q_aload_n F 0 dX5_certify_139 rfl rfl ?_
        refine qg_X5_142 F hM.1.1 dX5_certify_140 ?_
        refine q_mg 17 (nI nc) rfl hM hc ?_
        refine q_iload_n F 3 dX5_certify_143 rfl rfl ?_
        refine q_iast F (hM.1.2.1 20 rfl).2.1 (hM.1.2.1 20 rfl).2.2 rfl hlt (by decide) dX5_certify_144 ?_
        refine q_mA 20 rfl hM hm (fun S144 hM hm => ?_)
        refine q_aload_n F 0 dX5_certify_145 rfl rfl ?_
        refine qg_X5_60 F (hM.1.2.1 21 rfl).1 hM.1.1 dX5_certify_146 ?_
        refine q_aload_n F 0 dX5_certify_149 rfl rfl ?_
        refine qg_X5_142 F hM.1.1 dX5_certify_150 ?_
        refine q_mg 17 (nI nc) rfl hM hc ?_
        refine q_iload F dX5_certify_153 rfl ?_
        refine q_iast F (hM.1.2.1 21 rfl).2.1 (hM.1.2.1 21 rfl).2.2 rfl hlt (by decide) dX5_certify_155 ?_
        refine q_mA 21 rfl hM hm (fun S155 hM hm => ?_)
        refine q_aload_n F 0 dX5_certify_156 rfl rfl ?_
        refine qg_X5_63 F (hM.1.2.1 22 rfl).1 hM.1.1 dX5_certify_157 ?_
        refine q_aload_n F 0 dX5_certify_160 rfl rfl ?_
        refine qg_X5_142 F hM.1.1 dX5_certify_161 ?_
        refine q_mg 17 (nI nc) rfl hM hc ?_
        refine q_iload F dX5_certify_164 rfl ?_
        refine q_iast F (hM.1.2.1 22 rfl).2.1 (hM.1.2.1 22 rfl).2.2 rfl hlt (by decide) dX5_certify_166 ?_
        refine q_mA 22 rfl hM hm (fun S166 hM hm => ?_)
        refine q_aload_n F 0 dX5_certify_167 rfl rfl ?_
        refine qg_X5_66 F (hM.1.2.1 23 rfl).1 hM.1.1 dX5_certify_168 ?_
        refine q_aload_n F 0 dX5_certify_171 rfl rfl ?_
        refine qg_X5_142 F hM.1.1 dX5_certify_172 ?_
        refine q_mg 17 (nI nc) rfl hM hc ?_
        refine q_iload F dX5_certify_175 rfl ?_
        refine q_iast F (hM.1.2.1 23 rfl).2.1 (hM.1.2.1 23 rfl).2.2 rfl hlt (by decide) dX5_certify_177 ?_
        refine q_mA 23 rfl hM hm (fun S177 hM hm => ?_)
        refine q_aload_n F 0 dX5_certify_178 rfl rfl ?_
        refine qg_X5_69 F (hM.1.2.1 24 rfl).1 hM.1.1 dX5_certify_179 ?_
        refine q_aload_n F 0 dX5_certify_182 rfl rfl ?_
        refine qg_X5_142 F hM.1.1 dX5_certify_183 ?_
        refine q_mg 17 (nI nc) rfl hM hc ?_
        refine q_iload F dX5_certify_186 rfl ?_
        refine q_iast F (hM.1.2.1 24 rfl).2.1 (hM.1.2.1 24 rfl).2.2 rfl hlt (by decide) dX5_certify_188 ?_
        refine q_mA 24 rfl hM hm (fun S188 hM hm => ?_)
        refine q_aload_n F 0 dX5_certify_189 rfl rfl ?_
        refine q_dup F dX5_certify_190 rfl ?_
        refine qg_X5_142 F hM.1.1 dX5_certify_191 ?_
        refine q_mg 17 (nI nc) rfl hM hc ?_
        refine q_iconst F dX5_certify_194 hc_1 ?_
        refine q_iadd F dX5_certify_195 ?_
        refine q_top (v' := .int (nI (nc + 1))) ?_ (congrArg Value.int (nI_1 nc))
        refine qp_X5_142 F hM.1.1 dX5_certify_196 ?_
        refine q_mF 17 hM hm (fun S196 hM hm => ?_)
        refine q_aload_n F 0 dX5_certify_199 rfl rfl ?_
        refine qg_X5_142 F hM.1.1 dX5_certify_200 ?_
        refine q_mg 17 (nI (nc + 1)) rfl hM rfl ?_
        refine q_iconst F dX5_certify_203 hc_1 ?_
        refine q_isub F dX5_certify_204 ?_
        exact (q_reti F hr rfl dX5_certify_205 (Nat.le_of_ble_eq_true rfl) (Nat.le_of_ble_eq_true rfl) ⟨_, rfl, hm, Or.inr (Or.inr ⟨(by simp [b2_n0 c4, b2_n0 c11, b2_n0 c18, b2_n0 c29, b2_n0 c41, (cf_days c53 c60 c68).1, (cf_days c53 c60 c68).2]), decide_eq_true hlt, nI_pred nc, hM⟩)⟩)
      exact absurd c110 (by decide)
    refine q_iconst F dX5_certify_102 hc_2 ?_
    refine q_goto F 107 dX5_certify_103 rfl ?_
    refine q_callV_gi F (c_X5_holds hM) gX5_certify_X5_holds rfl hd_X5_holds ⟨Nat.le_of_ble_eq_true rfl, Nat.le_of_ble_eq_true rfl⟩ hM.1.1 rfl rfl rfl (Nat.le_of_ble_eq_true rfl) dX5_certify_107 ⟨Nat.le_of_ble_eq_true rfl, Nat.le_of_ble_eq_true rfl⟩ (fun r107 S107 hp107 => ?_)
    obtain ⟨rfl, hM, hm107⟩ := hp107
    have hm := hm.trans hm107
    refine q_cz ?_
    refine q_if_ne F 115 dX5_certify_110 rfl (fun c110 => ?_) (fun c110 => ?_)
    · exact absurd c110 (by decide)
    refine q_iconst F dX5_certify_113 hc_0 ?_
    exact (q_reti F hr rfl dX5_certify_114 (Nat.le_of_ble_eq_true rfl) (Nat.le_of_ble_eq_true rfl) ⟨_, rfl, hm, by first | exact Or.inl ⟨(by first | (simp [b2_0.mp c4]; done) | (simp [b2_0.mp c11]; done) | (simp [b2_0.mp c18]; done) | (simp [b2_0.mp c29]; done) | (simp [b2_0.mp c41]; done) | (simp [inR_f1 c53]; done) | (simp [inR_f1 c60]; done) | (simp [inR_f2 (Int32.not_le.mpr c68)]; done)), hM⟩ | exact Or.inr (Or.inl ⟨(by simp [b2_n0 c4, b2_n0 c11, b2_n0 c18, b2_n0 c29, b2_n0 c41, (cf_days c53 c60 c68).1, (cf_days c53 c60 c68).2]), nlt20 hc20 c99, hM⟩)⟩)
  exact absurd c86 (by decide)

theorem rs_in {fr to : Int32} (h1 : ¬ fr < 0) (h2 : ¬ to < fr) (h3 : ¬ (999 : Int32) < to) : inR fr 0 999 = true ∧ inR to fr 999 = true :=
  ⟨inR_t h1 (Int32.le_trans (Int32.not_lt.mp h2) (Int32.not_lt.mp h3)), inR_t h2 (Int32.not_lt.mp h3)⟩

set_option maxHeartbeats 4000000 in
set_option maxRecDepth 100000 in
theorem c_X5_revokeSpan {l : Launch} {g : hG} {X : va_W} {S : hS} {md : Nat} {ar : Nat → Nat} {sc : Nat → Int32} {M : Nat → Nat → Int32} (hM : mS S md ar sc M) {ns : Nat} (hs : sc 25 = nI ns) (hs20 : ns ≤ 20) {nc : Nat} (hc : sc 17 = nI nc) (hc20 : nc ≤ 20) {au fr to : Int32} : hMet l yX5_revokeSpan wsX5_revokeSpan rm_X5_revokeSpan g X S [.ref md, .int au, .int fr, .int to] (mP2 S md ar (okK au && inR fr 0 999 && inR to fr 999) (decide (ns < 20)) sc M (cntN (rv (aSpan M ns au fr to) (ns + 1)) nc) (va_up (va_up sc 0 0) 25 (nI (ns + 1))) (aSpan M ns au fr to)) := by
  refine h_start (maxL := 7) (ret := (some .int)) (by decide) rfl (Nat.le_of_ble_eq_true rfl) ?_
  intro p e s m args below meth c F hr hinit
  have hm := mdF.rf S
  refine q_iload_n F 1 dX5_revokeSpan_0 rfl rfl ?_
  refine q_callS_i F (c_X5_isKey) gX5_revokeSpan_X5_isKey rfl hd_X5_isKey ⟨Nat.le_of_ble_eq_true rfl, Nat.le_of_ble_eq_true rfl⟩ rfl rfl (Nat.le_of_ble_eq_true rfl) dX5_revokeSpan_1 ⟨Nat.le_of_ble_eq_true rfl, Nat.le_of_ble_eq_true rfl⟩ ?_
  refine q_if_eq F 27 dX5_revokeSpan_4 rfl (fun c4 => ?_) (fun c4 => ?_)
  · refine q_iconst F dX5_revokeSpan_27 hc_0 ?_
    refine q_istore F dX5_revokeSpan_28 (by decide) rfl ?_
    refine q_aload_n F 0 dX5_revokeSpan_30 rfl rfl ?_
    refine q_iload F dX5_revokeSpan_31 rfl ?_
    refine q_if_ne F 40 dX5_revokeSpan_33 rfl (fun c33 => ?_) (fun c33 => ?_)
    · exact absurd c33 (by decide)
    refine q_iconst F dX5_revokeSpan_36 hc_1 ?_
    refine q_goto F 54 dX5_revokeSpan_37 rfl ?_
    refine q_callV_gi F (c_X5_holds hM) gX5_revokeSpan_X5_holds rfl hd_X5_holds ⟨Nat.le_of_ble_eq_true rfl, Nat.le_of_ble_eq_true rfl⟩ hM.1.1 rfl rfl rfl (Nat.le_of_ble_eq_true rfl) dX5_revokeSpan_54 ⟨Nat.le_of_ble_eq_true rfl, Nat.le_of_ble_eq_true rfl⟩ (fun r54 S54 hp54 => ?_)
    obtain ⟨rfl, hM, hm54⟩ := hp54
    have hm := hm.trans hm54
    refine q_cz ?_
    refine q_if_ne F 62 dX5_revokeSpan_57 rfl (fun c57 => ?_) (fun c57 => ?_)
    · exact absurd c57 (by decide)
    refine q_iconst F dX5_revokeSpan_60 hc_0 ?_
    exact (q_reti F hr rfl dX5_revokeSpan_61 (Nat.le_of_ble_eq_true rfl) (Nat.le_of_ble_eq_true rfl) ⟨_, rfl, hm, by first | exact Or.inl ⟨(by first | (simp [b2_0.mp c4]; done) | (simp [inR_f1 c8]; done) | (simp [inR_f1 c13]; done) | (simp [inR_f2 (Int32.not_le.mpr c20)]; done)), hM⟩ | exact Or.inr (Or.inl ⟨(by simp [b2_n0 c4, (rs_in c8 c13 c20).1, (rs_in c8 c13 c20).2]), nlt20 hs20 c46, hM⟩)⟩)
  refine q_iload_n F 2 dX5_revokeSpan_7 rfl rfl ?_
  refine q_if_lt F 27 dX5_revokeSpan_8 rfl (fun c8 => ?_) (fun c8 => ?_)
  · refine q_iconst F dX5_revokeSpan_27 hc_0 ?_
    refine q_istore F dX5_revokeSpan_28 (by decide) rfl ?_
    refine q_aload_n F 0 dX5_revokeSpan_30 rfl rfl ?_
    refine q_iload F dX5_revokeSpan_31 rfl ?_
    refine q_if_ne F 40 dX5_revokeSpan_33 rfl (fun c33 => ?_) (fun c33 => ?_)
    · exact absurd c33 (by decide)
    refine q_iconst F dX5_revokeSpan_36 hc_1 ?_
    refine q_goto F 54 dX5_revokeSpan_37 rfl ?_
    refine q_callV_gi F (c_X5_holds hM) gX5_revokeSpan_X5_holds rfl hd_X5_holds ⟨Nat.le_of_ble_eq_true rfl, Nat.le_of_ble_eq_true rfl⟩ hM.1.1 rfl rfl rfl (Nat.le_of_ble_eq_true rfl) dX5_revokeSpan_54 ⟨Nat.le_of_ble_eq_true rfl, Nat.le_of_ble_eq_true rfl⟩ (fun r54 S54 hp54 => ?_)
    obtain ⟨rfl, hM, hm54⟩ := hp54
    have hm := hm.trans hm54
    refine q_cz ?_
    refine q_if_ne F 62 dX5_revokeSpan_57 rfl (fun c57 => ?_) (fun c57 => ?_)
    · exact absurd c57 (by decide)
    refine q_iconst F dX5_revokeSpan_60 hc_0 ?_
    exact (q_reti F hr rfl dX5_revokeSpan_61 (Nat.le_of_ble_eq_true rfl) (Nat.le_of_ble_eq_true rfl) ⟨_, rfl, hm, by first | exact Or.inl ⟨(by first | (simp [b2_0.mp c4]; done) | (simp [inR_f1 c8]; done) | (simp [inR_f1 c13]; done) | (simp [inR_f2 (Int32.not_le.mpr c20)]; done)), hM⟩ | exact Or.inr (Or.inl ⟨(by simp [b2_n0 c4, (rs_in c8 c13 c20).1, (rs_in c8 c13 c20).2]), nlt20 hs20 c46, hM⟩)⟩)
  refine q_iload_n F 3 dX5_revokeSpan_11 rfl rfl ?_
  refine q_iload_n F 2 dX5_revokeSpan_12 rfl rfl ?_
  refine q_icmp_lt F 27 dX5_revokeSpan_13 rfl (fun c13 => ?_) (fun c13 => ?_)
  · refine q_iconst F dX5_revokeSpan_27 hc_0 ?_
    refine q_istore F dX5_revokeSpan_28 (by decide) rfl ?_
    refine q_aload_n F 0 dX5_revokeSpan_30 rfl rfl ?_
    refine q_iload F dX5_revokeSpan_31 rfl ?_
    refine q_if_ne F 40 dX5_revokeSpan_33 rfl (fun c33 => ?_) (fun c33 => ?_)
    · exact absurd c33 (by decide)
    refine q_iconst F dX5_revokeSpan_36 hc_1 ?_
    refine q_goto F 54 dX5_revokeSpan_37 rfl ?_
    refine q_callV_gi F (c_X5_holds hM) gX5_revokeSpan_X5_holds rfl hd_X5_holds ⟨Nat.le_of_ble_eq_true rfl, Nat.le_of_ble_eq_true rfl⟩ hM.1.1 rfl rfl rfl (Nat.le_of_ble_eq_true rfl) dX5_revokeSpan_54 ⟨Nat.le_of_ble_eq_true rfl, Nat.le_of_ble_eq_true rfl⟩ (fun r54 S54 hp54 => ?_)
    obtain ⟨rfl, hM, hm54⟩ := hp54
    have hm := hm.trans hm54
    refine q_cz ?_
    refine q_if_ne F 62 dX5_revokeSpan_57 rfl (fun c57 => ?_) (fun c57 => ?_)
    · exact absurd c57 (by decide)
    refine q_iconst F dX5_revokeSpan_60 hc_0 ?_
    exact (q_reti F hr rfl dX5_revokeSpan_61 (Nat.le_of_ble_eq_true rfl) (Nat.le_of_ble_eq_true rfl) ⟨_, rfl, hm, by first | exact Or.inl ⟨(by first | (simp [b2_0.mp c4]; done) | (simp [inR_f1 c8]; done) | (simp [inR_f1 c13]; done) | (simp [inR_f2 (Int32.not_le.mpr c20)]; done)), hM⟩ | exact Or.inr (Or.inl ⟨(by simp [b2_n0 c4, (rs_in c8 c13 c20).1, (rs_in c8 c13 c20).2]), nlt20 hs20 c46, hM⟩)⟩)
  refine q_iload_n F 3 dX5_revokeSpan_16 rfl rfl ?_
  refine q_sipush (v := 999) F dX5_revokeSpan_17 (by decide) ?_
  refine q_icmp_gt F 27 dX5_revokeSpan_20 rfl (fun c20 => ?_) (fun c20 => ?_)
  · refine q_iconst F dX5_revokeSpan_27 hc_0 ?_
    refine q_istore F dX5_revokeSpan_28 (by decide) rfl ?_
    refine q_aload_n F 0 dX5_revokeSpan_30 rfl rfl ?_
    refine q_iload F dX5_revokeSpan_31 rfl ?_
    refine q_if_ne F 40 dX5_revokeSpan_33 rfl (fun c33 => ?_) (fun c33 => ?_)
    · exact absurd c33 (by decide)
    refine q_iconst F dX5_revokeSpan_36 hc_1 ?_
    refine q_goto F 54 dX5_revokeSpan_37 rfl ?_
    refine q_callV_gi F (c_X5_holds hM) gX5_revokeSpan_X5_holds rfl hd_X5_holds ⟨Nat.le_of_ble_eq_true rfl, Nat.le_of_ble_eq_true rfl⟩ hM.1.1 rfl rfl rfl (Nat.le_of_ble_eq_true rfl) dX5_revokeSpan_54 ⟨Nat.le_of_ble_eq_true rfl, Nat.le_of_ble_eq_true rfl⟩ (fun r54 S54 hp54 => ?_)
    obtain ⟨rfl, hM, hm54⟩ := hp54
    have hm := hm.trans hm54
    refine q_cz ?_
    refine q_if_ne F 62 dX5_revokeSpan_57 rfl (fun c57 => ?_) (fun c57 => ?_)
    · exact absurd c57 (by decide)
    refine q_iconst F dX5_revokeSpan_60 hc_0 ?_
    exact (q_reti F hr rfl dX5_revokeSpan_61 (Nat.le_of_ble_eq_true rfl) (Nat.le_of_ble_eq_true rfl) ⟨_, rfl, hm, by first | exact Or.inl ⟨(by first | (simp [b2_0.mp c4]; done) | (simp [inR_f1 c8]; done) | (simp [inR_f1 c13]; done) | (simp [inR_f2 (Int32.not_le.mpr c20)]; done)), hM⟩ | exact Or.inr (Or.inl ⟨(by simp [b2_n0 c4, (rs_in c8 c13 c20).1, (rs_in c8 c13 c20).2]), nlt20 hs20 c46, hM⟩)⟩)
  refine q_iconst F dX5_revokeSpan_23 hc_1 ?_
  refine q_goto F 28 dX5_revokeSpan_24 rfl ?_
  refine q_istore F dX5_revokeSpan_28 (by decide) rfl ?_
  refine q_aload_n F 0 dX5_revokeSpan_30 rfl rfl ?_
  refine q_iload F dX5_revokeSpan_31 rfl ?_
  refine q_if_ne F 40 dX5_revokeSpan_33 rfl (fun c33 => ?_) (fun c33 => ?_)
  · refine q_aload_n F 0 dX5_revokeSpan_40 rfl rfl ?_
    refine qg_X5_145 F hM.1.1 dX5_revokeSpan_41 ?_
    refine q_mg 25 (nI ns) rfl hM hs ?_
    refine q_bipush (v := 20) F dX5_revokeSpan_44 (by decide) ?_
    refine q_icmp_ne F 53 dX5_revokeSpan_46 rfl (fun c46 => ?_) (fun c46 => ?_)
    · refine q_iconst F dX5_revokeSpan_53 hc_0 ?_
      refine q_callV_gi F (c_X5_holds hM) gX5_revokeSpan_X5_holds rfl hd_X5_holds ⟨Nat.le_of_ble_eq_true rfl, Nat.le_of_ble_eq_true rfl⟩ hM.1.1 rfl rfl rfl (Nat.le_of_ble_eq_true rfl) dX5_revokeSpan_54 ⟨Nat.le_of_ble_eq_true rfl, Nat.le_of_ble_eq_true rfl⟩ (fun r54 S54 hp54 => ?_)
      obtain ⟨rfl, hM, hm54⟩ := hp54
      have hm := hm.trans hm54
      refine q_cz ?_
      refine q_if_ne F 62 dX5_revokeSpan_57 rfl (fun c57 => ?_) (fun c57 => ?_)
      · have hlt := ylt20 hs20 c46
        refine q_aload_n F 0 dX5_revokeSpan_62 rfl rfl ?_
        refine qg_X5_72 F (hM.1.2.1 26 rfl).1 hM.1.1 dX5_revokeSpan_63 ?_
        refine q_aload_n F 0 dX5_revokeSpan_66 rfl rfl ?_
        refine qg_X5_145 F hM.1.1 dX5_revokeSpan_67 ?_
        refine q_mg 25 (nI ns) rfl hM hs ?_
        refine q_iload_n F 1 dX5_revokeSpan_70 rfl rfl ?_
        refine q_iast F (hM.1.2.1 26 rfl).2.1 (hM.1.2.1 26 rfl).2.2 rfl hlt (by decide) dX5_revokeSpan_71 ?_
        refine q_mA 26 rfl hM hm (fun S71 hM hm => ?_)
        refine q_aload_n F 0 dX5_revokeSpan_72 rfl rfl ?_
        refine qg_X5_75 F (hM.1.2.1 27 rfl).1 hM.1.1 dX5_revokeSpan_73 ?_
        refine q_aload_n F 0 dX5_revokeSpan_76 rfl rfl ?_
        refine qg_X5_145 F hM.1.1 dX5_revokeSpan_77 ?_
        refine q_mg 25 (nI ns) rfl hM hs ?_
        refine q_iload_n F 2 dX5_revokeSpan_80 rfl rfl ?_
        refine q_iast F (hM.1.2.1 27 rfl).2.1 (hM.1.2.1 27 rfl).2.2 rfl hlt (by decide) dX5_revokeSpan_81 ?_
        refine q_mA 27 rfl hM hm (fun S81 hM hm => ?_)
        refine q_aload_n F 0 dX5_revokeSpan_82 rfl rfl ?_
        refine qg_X5_78 F (hM.1.2.1 28 rfl).1 hM.1.1 dX5_revokeSpan_83 ?_
        refine q_aload_n F 0 dX5_revokeSpan_86 rfl rfl ?_
        refine qg_X5_145 F hM.1.1 dX5_revokeSpan_87 ?_
        refine q_mg 25 (nI ns) rfl hM hs ?_
        refine q_iload_n F 3 dX5_revokeSpan_90 rfl rfl ?_
        refine q_iast F (hM.1.2.1 28 rfl).2.1 (hM.1.2.1 28 rfl).2.2 rfl hlt (by decide) dX5_revokeSpan_91 ?_
        refine q_mA 28 rfl hM hm (fun S91 hM hm => ?_)
        refine q_aload_n F 0 dX5_revokeSpan_92 rfl rfl ?_
        refine q_dup F dX5_revokeSpan_93 rfl ?_
        refine qg_X5_145 F hM.1.1 dX5_revokeSpan_94 ?_
        refine q_mg 25 (nI ns) rfl hM hs ?_
        refine q_iconst F dX5_revokeSpan_97 hc_1 ?_
        refine q_iadd F dX5_revokeSpan_98 ?_
        refine q_top (v' := .int (nI (ns + 1))) ?_ (congrArg Value.int (nI_1 ns))
        refine qp_X5_145 F hM.1.1 dX5_revokeSpan_99 ?_
        refine q_mF 25 hM hm (fun S99 hM hm => ?_)
        have hAA : (okK au && inR fr 0 999 && inR to fr 999) = true := (by simp [b2_n0 c4, (rs_in c8 c13 c20).1, (rs_in c8 c13 c20).2])
        have hM : mS S99 md ar (va_up (va_up sc 0 0) 25 (nI (ns + 1))) (aSpan M ns au fr to) := hM
        refine q_iconst F dX5_revokeSpan_102 hc_0 ?_
        refine q_istore F dX5_revokeSpan_103 (by decide) rfl ?_
        refine q_iconst F dX5_revokeSpan_105 hc_0 ?_
        refine q_istore F dX5_revokeSpan_106 (by decide) rfl ?_
        have L : ∀ (r j : Nat), j + r = nc → V p l e rm_X5_revokeSpan s m args below meth c 7 g X (MQ below (hQ g X (mP2 S md ar (okK au && inR fr 0 999 && inR to fr 999) (decide (ns < 20)) sc M (cntN (rv (aSpan M ns au fr to) (ns + 1)) nc) (va_up (va_up sc 0 0) 25 (nI (ns + 1))) (aSpan M ns au fr to))) args s rm_X5_revokeSpan.cells rm_X5_revokeSpan.slots (hA g)) S99 0 0 [(0, .ref md), (1, .int au), (2, .int fr), (3, .int to), (5, .int (cntN (rv (aSpan M ns au fr to) (ns + 1)) j)), (6, .int (nI j))] 108 [] := by
          intro r
          induction r with
          | zero =>
            intro j hjr
            have hjk : j = nc := by omega
            refine q_iload F dX5_revokeSpan_108 rfl ?_
            refine q_aload_n F 0 dX5_revokeSpan_110 rfl rfl ?_
            refine qg_X5_142 F hM.1.1 dX5_revokeSpan_111 ?_
            refine q_mg 17 (nI nc) rfl hM hc ?_
            refine q_icmp_ge F 142 dX5_revokeSpan_114 rfl (fun c114 => ?_) (fun c114 => ?_)
            · refine q_iload F dX5_revokeSpan_142 rfl ?_
              exact (q_reti F hr rfl dX5_revokeSpan_144 (Nat.le_of_ble_eq_true rfl) (Nat.le_of_ble_eq_true rfl) ⟨_, rfl, hm, Or.inr (Or.inr ⟨hAA, decide_eq_true hlt, by rw [hjk], hM⟩)⟩)
            exact absurd c114 (gT rfl rfl (show nc ≤ j by omega) (by omega))
          | succ r ih =>
            intro j hjr
            have hj : j < nc := by omega
            refine q_iload F dX5_revokeSpan_108 rfl ?_
            refine q_aload_n F 0 dX5_revokeSpan_110 rfl rfl ?_
            refine qg_X5_142 F hM.1.1 dX5_revokeSpan_111 ?_
            refine q_mg 17 (nI nc) rfl hM hc ?_
            refine q_icmp_ge F 142 dX5_revokeSpan_114 rfl (fun c114 => ?_) (fun c114 => ?_)
            · exact absurd c114 (gF rfl rfl hj (by omega))
            refine q_iload F dX5_revokeSpan_117 rfl ?_
            refine q_aload_n F 0 dX5_revokeSpan_119 rfl rfl ?_
            refine q_iload F dX5_revokeSpan_120 rfl ?_
            refine q_callV_i F (c_X5_isRevoked (ns := ns + 1) hM rfl hlt (show j < 20 by omega)) gX5_revokeSpan_X5_isRevoked rfl hd_X5_isRevoked ⟨Nat.le_of_ble_eq_true rfl, Nat.le_of_ble_eq_true rfl⟩ hM.1.1 rfl rfl rfl (Nat.le_of_ble_eq_true rfl) dX5_revokeSpan_122 ⟨Nat.le_of_ble_eq_true rfl, Nat.le_of_ble_eq_true rfl⟩ ?_
            refine q_if_eq F 132 dX5_revokeSpan_125 rfl (fun c125 => ?_) (fun c125 => ?_)
            · refine q_iconst F dX5_revokeSpan_132 hc_0 ?_
              refine q_iadd F dX5_revokeSpan_133 ?_
              refine q_istore F dX5_revokeSpan_134 (by decide) rfl ?_
              refine q_iinc F (nI (j + 1)) dX5_revokeSpan_136 rfl (nI_inc j) (by decide) rfl ?_
              refine q_goto F 108 dX5_revokeSpan_139 rfl ?_
              exact q_to (ih (j + 1) (by omega)) ⟨rfl, rfl, rfl, rfl, congrArg (fun z => some (Value.int z)) (by rw [cntN]; first | (rw [b2_0.mp c125]; rfl) | (rw [b2_n0 c125]; rfl)), rfl, trivial⟩
            refine q_iconst F dX5_revokeSpan_128 hc_1 ?_
            refine q_goto F 133 dX5_revokeSpan_129 rfl ?_
            refine q_iadd F dX5_revokeSpan_133 ?_
            refine q_istore F dX5_revokeSpan_134 (by decide) rfl ?_
            refine q_iinc F (nI (j + 1)) dX5_revokeSpan_136 rfl (nI_inc j) (by decide) rfl ?_
            refine q_goto F 108 dX5_revokeSpan_139 rfl ?_
            exact q_to (ih (j + 1) (by omega)) ⟨rfl, rfl, rfl, rfl, congrArg (fun z => some (Value.int z)) (by rw [cntN]; first | (rw [b2_0.mp c125]; rfl) | (rw [b2_n0 c125]; rfl)), rfl, trivial⟩
        exact q_to (L nc 0 (by omega)) ⟨rfl, rfl, rfl, rfl, rfl, rfl, trivial⟩
      exact absurd c57 (by decide)
    refine q_iconst F dX5_revokeSpan_49 hc_2 ?_
    refine q_goto F 54 dX5_revokeSpan_50 rfl ?_
    refine q_callV_gi F (c_X5_holds hM) gX5_revokeSpan_X5_holds rfl hd_X5_holds ⟨Nat.le_of_ble_eq_true rfl, Nat.le_of_ble_eq_true rfl⟩ hM.1.1 rfl rfl rfl (Nat.le_of_ble_eq_true rfl) dX5_revokeSpan_54 ⟨Nat.le_of_ble_eq_true rfl, Nat.le_of_ble_eq_true rfl⟩ (fun r54 S54 hp54 => ?_)
    obtain ⟨rfl, hM, hm54⟩ := hp54
    have hm := hm.trans hm54
    refine q_cz ?_
    refine q_if_ne F 62 dX5_revokeSpan_57 rfl (fun c57 => ?_) (fun c57 => ?_)
    · exact absurd c57 (by decide)
    refine q_iconst F dX5_revokeSpan_60 hc_0 ?_
    exact (q_reti F hr rfl dX5_revokeSpan_61 (Nat.le_of_ble_eq_true rfl) (Nat.le_of_ble_eq_true rfl) ⟨_, rfl, hm, by first | exact Or.inl ⟨(by first | (simp [b2_0.mp c4]; done) | (simp [inR_f1 c8]; done) | (simp [inR_f1 c13]; done) | (simp [inR_f2 (Int32.not_le.mpr c20)]; done)), hM⟩ | exact Or.inr (Or.inl ⟨(by simp [b2_n0 c4, (rs_in c8 c13 c20).1, (rs_in c8 c13 c20).2]), nlt20 hs20 c46, hM⟩)⟩)
  exact absurd c33 (by decide)

set_option maxHeartbeats 4000000 in
set_option maxRecDepth 100000 in
theorem c_X5_setFirstSight {l : Launch} {g : hG} {X : va_W} {S : hS} {md : Nat} {ar : Nat → Nat} {sc : Nat → Int32} {M : Nat → Nat → Int32} (hM : mS S md ar sc M) {rule b : Int32} (hB : isB b) : hMet l yX5_setFirstSight wsX5_setFirstSight rm_X5_setFirstSight g X S [.ref md, .int rule, .int b] (mP1 S md ar (inR rule 0 2) sc M (sc 2) (aSight (va_up sc 0 0) rule b) M) := by
  refine h_start (maxL := 4) (ret := (some .int)) (by decide) rfl (Nat.le_of_ble_eq_true rfl) ?_
  intro p e s m args below meth c F hr hinit
  have hm := mdF.rf S
  refine q_aload_n F 0 dX5_setFirstSight_0 rfl rfl ?_
  refine q_iload_n F 1 dX5_setFirstSight_1 rfl rfl ?_
  refine q_iconst F dX5_setFirstSight_2 hc_0 ?_
  refine q_iconst F dX5_setFirstSight_3 hc_2 ?_
  refine q_callS_i F (c_X5_isIn) gX5_setFirstSight_X5_isIn rfl hd_X5_isIn ⟨Nat.le_of_ble_eq_true rfl, Nat.le_of_ble_eq_true rfl⟩ rfl rfl (Nat.le_of_ble_eq_true rfl) dX5_setFirstSight_4 ⟨Nat.le_of_ble_eq_true rfl, Nat.le_of_ble_eq_true rfl⟩ ?_
  refine q_if_eq F 14 dX5_setFirstSight_7 rfl (fun c7 => ?_) (fun c7 => ?_)
  · refine q_iconst F dX5_setFirstSight_14 hc_1 ?_
    refine q_callV_gi F (c_X5_holds hM) gX5_setFirstSight_X5_holds rfl hd_X5_holds ⟨Nat.le_of_ble_eq_true rfl, Nat.le_of_ble_eq_true rfl⟩ hM.1.1 rfl rfl rfl (Nat.le_of_ble_eq_true rfl) dX5_setFirstSight_15 ⟨Nat.le_of_ble_eq_true rfl, Nat.le_of_ble_eq_true rfl⟩ (fun r15 S15 hp15 => ?_)
    obtain ⟨rfl, hM, hm15⟩ := hp15
    have hm := hm.trans hm15
    refine q_cz ?_
    refine q_if_ne F 23 dX5_setFirstSight_18 rfl (fun c18 => ?_) (fun c18 => ?_)
    · exact absurd c18 (by decide)
    refine q_iconst F dX5_setFirstSight_21 hc_0 ?_
    exact (q_reti F hr rfl dX5_setFirstSight_22 (Nat.le_of_ble_eq_true rfl) (Nat.le_of_ble_eq_true rfl) ⟨_, rfl, hm, Or.inl ⟨b2_0.mp c7, hM⟩⟩)
  refine q_iconst F dX5_setFirstSight_10 hc_0 ?_
  refine q_goto F 15 dX5_setFirstSight_11 rfl ?_
  refine q_callV_gi F (c_X5_holds hM) gX5_setFirstSight_X5_holds rfl hd_X5_holds ⟨Nat.le_of_ble_eq_true rfl, Nat.le_of_ble_eq_true rfl⟩ hM.1.1 rfl rfl rfl (Nat.le_of_ble_eq_true rfl) dX5_setFirstSight_15 ⟨Nat.le_of_ble_eq_true rfl, Nat.le_of_ble_eq_true rfl⟩ (fun r15 S15 hp15 => ?_)
  obtain ⟨rfl, hM, hm15⟩ := hp15
  have hm := hm.trans hm15
  refine q_cz ?_
  refine q_if_ne F 23 dX5_setFirstSight_18 rfl (fun c18 => ?_) (fun c18 => ?_)
  · refine q_aload_n F 0 dX5_setFirstSight_23 rfl rfl ?_
    refine qg_X5_7 F hM.1.1 dX5_setFirstSight_24 ?_
    refine q_mg 2 (sc 2) rfl hM rfl ?_
    refine q_istore_n F 3 dX5_setFirstSight_27 rfl (by decide) rfl ?_
    refine q_aload_n F 0 dX5_setFirstSight_28 rfl rfl ?_
    refine q_iload_n F 1 dX5_setFirstSight_29 rfl rfl ?_
    refine qp_X5_7 F hM.1.1 dX5_setFirstSight_30 ?_
    refine q_mF 2 hM hm (fun S30 hM hm => ?_)
    refine q_aload_n F 0 dX5_setFirstSight_33 rfl rfl ?_
    refine q_iload_n F 2 dX5_setFirstSight_34 rfl rfl ?_
    refine qp_X5_164 F hB hM.1.1 dX5_setFirstSight_35 ?_
    refine q_mF 3 hM hm (fun S35 hM hm => ?_)
    refine q_iload_n F 3 dX5_setFirstSight_38 rfl rfl ?_
    exact (q_reti F hr rfl dX5_setFirstSight_39 (Nat.le_of_ble_eq_true rfl) (Nat.le_of_ble_eq_true rfl) ⟨_, rfl, hm, Or.inr ⟨b2_n0 c7, rfl, hM⟩⟩)
  exact absurd c18 (by decide)

theorem aAdd_12s {M : Nat → Nat → Int32} {n : Nat} {mk key day : Int32} : aAdd M n mk key day 12 n = nI 0 := by unfold aAdd; rw [u2_eq, nI_0]
set_option maxHeartbeats 4000000 in
set_option maxRecDepth 100000 in
theorem c_X5_trusts {l : Launch} {g : hG} {X : va_W} {S : hS} {md : Nat} {ar : Nat → Nat} {sc : Nat → Int32} {M : Nat → Nat → Int32} (hM : mS S md ar sc M) {n : Nat} (hn : sc 4 = nI n) (hlt : n < 40) {name port key : Int32} : hMet l yX5_trusts wsX5_trusts rm_X5_trusts g X S [.ref md, .int name, .int port, .int key] (mV S md ar (scN sc (n + 1)) (aTr sc M n name port key)) := by
  refine h_start (maxL := 4) (ret := none) (by decide) rfl (Nat.le_of_ble_eq_true rfl) ?_
  intro p e s m args below meth c F hr hinit
  have hm := mdF.rf S
  refine q_aload_n F 0 dX5_trusts_0 rfl rfl ?_
  refine qg_X5_164 F hM.1.1 dX5_trusts_1 ?_
  refine q_mg 3 (sc 3) rfl hM rfl ?_
  refine q_if_eq F 27 dX5_trusts_4 rfl (fun c4 => ?_) (fun c4 => ?_)
  · refine q_aload_n F 0 dX5_trusts_27 rfl rfl ?_
    refine q_iconst F dX5_trusts_28 hc_0 ?_
    refine q_iload_n F 3 dX5_trusts_29 rfl rfl ?_
    refine q_callV_gv F (c_X5_adds hM hn hlt) gX5_trusts_X5_adds rfl hd_X5_adds ⟨Nat.le_of_ble_eq_true rfl, Nat.le_of_ble_eq_true rfl⟩ hM.1.1 rfl rfl rfl (Nat.le_of_ble_eq_true rfl) dX5_trusts_30 ⟨Nat.le_of_ble_eq_true rfl, Nat.le_of_ble_eq_true rfl⟩ (fun S30 hp30 => ?_)
    obtain ⟨hM, hm30⟩ := hp30
    have hm := hm.trans hm30
    refine q_aload_n F 0 dX5_trusts_33 rfl rfl ?_
    refine q_aload_n F 0 dX5_trusts_34 rfl rfl ?_
    refine qg_X5_91 F hM.1.1 dX5_trusts_35 ?_
    refine q_mg 4 (nI (n + 1)) rfl hM rfl ?_
    refine q_iconst F dX5_trusts_38 hc_1 ?_
    refine q_isub F dX5_trusts_39 ?_
    refine q_top (v' := .int (nI n)) ?_ (congrArg Value.int (nI_pred n))
    refine q_iload_n F 1 dX5_trusts_40 rfl rfl ?_
    refine q_bipush (v := 15) F dX5_trusts_41 (by decide) ?_
    refine q_iload_n F 2 dX5_trusts_43 rfl rfl ?_
    refine q_iconst F dX5_trusts_44 hc_0 ?_
    refine q_callV_gv F (c_X5_addsPattern (i := n) (k := 0) hM hlt (aAdd_12s) (by decide) (Or.inl rfl)) gX5_trusts_X5_addsPattern rfl hd_X5_addsPattern ⟨Nat.le_of_ble_eq_true rfl, Nat.le_of_ble_eq_true rfl⟩ hM.1.1 rfl rfl rfl (Nat.le_of_ble_eq_true rfl) dX5_trusts_45 ⟨Nat.le_of_ble_eq_true rfl, Nat.le_of_ble_eq_true rfl⟩ (fun S45 hp45 => ?_)
    obtain ⟨hM, hm45⟩ := hp45
    have hm := hm.trans hm45
    exact (q_retv F hr dX5_trusts_48 (Nat.le_of_ble_eq_true rfl) (Nat.le_of_ble_eq_true rfl) ⟨rfl, by first | (rw [show aTr sc M n name port key = _ from if_pos c4]; exact hM) | (rw [show aTr sc M n name port key = _ from if_neg c4]; exact hM), hm⟩)
  refine q_aload_n F 0 dX5_trusts_7 rfl rfl ?_
  refine q_iconst F dX5_trusts_8 hc_0 ?_
  refine q_iload_n F 3 dX5_trusts_9 rfl rfl ?_
  refine q_iload_n F 1 dX5_trusts_10 rfl rfl ?_
  refine q_iload_n F 2 dX5_trusts_11 rfl rfl ?_
  refine q_bipush (v := 7) F dX5_trusts_12 (by decide) ?_
  refine q_iload_n F 1 dX5_trusts_14 rfl rfl ?_
  refine q_imul F dX5_trusts_15 ?_
  refine q_iload_n F 3 dX5_trusts_16 rfl rfl ?_
  refine q_iadd F dX5_trusts_17 ?_
  refine q_bipush (v := 100) F dX5_trusts_18 (by decide) ?_
  refine q_irem F dX5_trusts_20 (by decide) ?_
  refine q_callV_gv F (c_X5_addsHashed hM hn hlt) gX5_trusts_X5_addsHashed rfl hd_X5_addsHashed ⟨Nat.le_of_ble_eq_true rfl, Nat.le_of_ble_eq_true rfl⟩ hM.1.1 rfl rfl rfl (Nat.le_of_ble_eq_true rfl) dX5_trusts_21 ⟨Nat.le_of_ble_eq_true rfl, Nat.le_of_ble_eq_true rfl⟩ (fun S21 hp21 => ?_)
  obtain ⟨hM, hm21⟩ := hp21
  have hm := hm.trans hm21
  refine q_goto F 48 dX5_trusts_24 rfl ?_
  exact (q_retv F hr dX5_trusts_48 (Nat.le_of_ble_eq_true rfl) (Nat.le_of_ble_eq_true rfl) ⟨rfl, by first | (rw [show aTr sc M n name port key = _ from if_pos c4]; exact hM) | (rw [show aTr sc M n name port key = _ from if_neg c4]; exact hM), hm⟩)

theorem seeB_1 {M : Nat → Nat → Int32} {day key name port : Int32} {i : Nat} : seeB M day key key name port i = (!decide (M 6 i = 1) && !en day (M 8 i) && decide (M 5 i = key) && mt M i name port) := by unfold seeB; rw [Bool.or_self]

set_option maxHeartbeats 4000000 in
set_option maxRecDepth 100000 in
theorem c_X5_sees {l : Launch} {g : hG} {X : va_W} {S : hS} {md : Nat} {ar : Nat → Nat} {sc : Nat → Int32} {M : Nat → Nat → Int32} (hM : mS S md ar sc M) {n : Nat} (hn : sc 4 = nI n) (hn40 : n ≤ 40) (hsz : ∀ i, i < n → ∃ k, k ≤ 4 ∧ M 12 i = nI k) {name port key : Int32} : hMet l yX5_sees wsX5_sees rm_X5_sees g X S [.ref md, .int name, .int port, .int key] (mV S md ar sc (aSee (seeB M (sc 1) key key name port) (sc 1) M n)) := by
  refine h_start (maxL := 6) (ret := none) (by decide) rfl (Nat.le_of_ble_eq_true rfl) ?_
  intro p e s m args below meth c F hr hinit
  have hm := mdF.rf S
  refine q_iconst F dX5_sees_0 hc_0 ?_
  refine q_istore F dX5_sees_1 (by decide) rfl ?_
  have L : ∀ (r j : Nat) (S1 : hS), j + r = n → mS S1 md ar sc (aSee (seeB M (sc 1) key key name port) (sc 1) M j) → mdF S S1 → V p l e rm_X5_sees s m args below meth c 6 g X (MQ below (hQ g X (mV S md ar sc (aSee (seeB M (sc 1) key key name port) (sc 1) M n))) args s rm_X5_sees.cells rm_X5_sees.slots (hA g)) S1 0 0 [(0, .ref md), (1, .int name), (2, .int port), (3, .int key), (4, .int (nI j))] 3 [] := by
    intro r
    induction r with
    | zero =>
      intro j S1 hjr hM hm
      have hjk : j = n := by omega
      refine q_iload F dX5_sees_3 rfl ?_
      refine q_aload_n F 0 dX5_sees_5 rfl rfl ?_
      refine qg_X5_91 F hM.1.1 dX5_sees_6 ?_
      refine q_mg 4 (nI n) rfl hM hn ?_
      refine q_icmp_ge F 93 dX5_sees_9 rfl (fun c9 => ?_) (fun c9 => ?_)
      · exact (q_retv F hr dX5_sees_93 (Nat.le_of_ble_eq_true rfl) (Nat.le_of_ble_eq_true rfl) ⟨rfl, by rw [← hjk]; exact hM, hm⟩)
      exact absurd c9 (gT rfl rfl (show n ≤ j by omega) (by omega))
    | succ r ih =>
      intro j S1 hjr hM hm
      have hj : j < n := by omega
      have hi40 : j < 40 := by omega
      obtain ⟨k, hk4, h12⟩ := hsz j hj
      have e8 : aSee (seeB M (sc 1) key key name port) (sc 1) M j 8 j = M 8 j := congrFun (aSee_f (by decide) j) j
      have em : mt (aSee (seeB M (sc 1) key key name port) (sc 1) M j) j name port = mt M j name port := aSee_mt _ _ _
      refine q_iload F dX5_sees_3 rfl ?_
      refine q_aload_n F 0 dX5_sees_5 rfl rfl ?_
      refine qg_X5_91 F hM.1.1 dX5_sees_6 ?_
      refine q_mg 4 (nI n) rfl hM hn ?_
      refine q_icmp_ge F 93 dX5_sees_9 rfl (fun c9 => ?_) (fun c9 => ?_)
      · exact absurd c9 (gF rfl rfl hj (by omega))
      refine q_aload_n F 0 dX5_sees_12 rfl rfl ?_
      refine qg_X5_17 F (hM.1.2.1 6 rfl).1 hM.1.1 dX5_sees_13 ?_
      refine q_iload F dX5_sees_16 rfl ?_
      refine q_iald F (hM.1.2.1 6 rfl).2.1 (hM.1.2.1 6 rfl).2.2 rfl hi40 (by decide) dX5_sees_18 ?_
      refine q_ma 6 (M 6 j) rfl hM (congrFun (aSee_f (by decide) j) j) ?_
      refine q_iconst F dX5_sees_19 hc_1 ?_
      refine q_icmp_eq F 58 dX5_sees_20 rfl (fun c20 => ?_) (fun c20 => ?_)
      · refine q_iconst F dX5_sees_58 hc_0 ?_
        refine q_istore F dX5_sees_59 (by decide) rfl ?_
        refine q_aload_n F 0 dX5_sees_61 rfl rfl ?_
        refine qg_X5_20 F (hM.1.2.1 7 rfl).1 hM.1.1 dX5_sees_62 ?_
        refine q_iload F dX5_sees_65 rfl ?_
        refine q_iload F dX5_sees_67 rfl ?_
        refine q_if_eq F 79 dX5_sees_69 rfl (fun c69 => ?_) (fun c69 => ?_)
        · refine q_aload_n F 0 dX5_sees_79 rfl rfl ?_
          refine qg_X5_20 F (hM.1.2.1 7 rfl).1 hM.1.1 dX5_sees_80 ?_
          refine q_iload F dX5_sees_83 rfl ?_
          refine q_iald F (hM.1.2.1 7 rfl).2.1 (hM.1.2.1 7 rfl).2.2 rfl hi40 (by decide) dX5_sees_85 ?_
          refine q_ma 7 (_) rfl hM rfl ?_
          refine q_iast F (hM.1.2.1 7 rfl).2.1 (hM.1.2.1 7 rfl).2.2 rfl hi40 (by decide) dX5_sees_86 ?_
          refine q_mA 7 rfl hM hm (fun S86 hM hm => ?_)
          refine q_iinc F (nI (j + 1)) dX5_sees_87 rfl (nI_inc j) (by decide) rfl ?_
          refine q_goto F 3 dX5_sees_90 rfl ?_
          first
            | exact q_to (ih (j + 1) _ (by omega) (by rw [aSee_s0 (show seeB M (sc 1) key key name port j = false by rw [seeB_1]; first | (rw [decide_eq_true c20]; rfl) | (rw [decide_eq_false c31, Bool.and_false]; rfl) | (rw [e8] at c40; rw [b2_n0 c40, Bool.not_true, Bool.and_false]; rfl) | (rw [em] at c51; rw [b2_0.mp c51, Bool.and_false]))]; rw [u2_self] at hM; exact hM) hm) ⟨rfl, rfl, rfl, rfl, rfl, trivial⟩
            | exact q_to (ih (j + 1) _ (by omega) (by rw [e8] at c40; rw [em] at c51; rw [aSee_s1 (show seeB M (sc 1) key key name port j = true by rw [seeB_1, decide_eq_false c20, decide_eq_true c31, b2_0.mp c40, b2_n0 c51]; rfl)]; exact hM) hm) ⟨rfl, rfl, rfl, rfl, rfl, trivial⟩
        exact absurd c69 (by decide)
      refine q_aload_n F 0 dX5_sees_23 rfl rfl ?_
      refine qg_X5_13 F (hM.1.2.1 5 rfl).1 hM.1.1 dX5_sees_24 ?_
      refine q_iload F dX5_sees_27 rfl ?_
      refine q_iald F (hM.1.2.1 5 rfl).2.1 (hM.1.2.1 5 rfl).2.2 rfl hi40 (by decide) dX5_sees_29 ?_
      refine q_ma 5 (M 5 j) rfl hM (congrFun (aSee_f (by decide) j) j) ?_
      refine q_iload_n F 3 dX5_sees_30 rfl rfl ?_
      refine q_icmp_ne F 58 dX5_sees_31 rfl (fun c31 => ?_) (fun c31 => ?_)
      · refine q_iconst F dX5_sees_58 hc_0 ?_
        refine q_istore F dX5_sees_59 (by decide) rfl ?_
        refine q_aload_n F 0 dX5_sees_61 rfl rfl ?_
        refine qg_X5_20 F (hM.1.2.1 7 rfl).1 hM.1.1 dX5_sees_62 ?_
        refine q_iload F dX5_sees_65 rfl ?_
        refine q_iload F dX5_sees_67 rfl ?_
        refine q_if_eq F 79 dX5_sees_69 rfl (fun c69 => ?_) (fun c69 => ?_)
        · refine q_aload_n F 0 dX5_sees_79 rfl rfl ?_
          refine qg_X5_20 F (hM.1.2.1 7 rfl).1 hM.1.1 dX5_sees_80 ?_
          refine q_iload F dX5_sees_83 rfl ?_
          refine q_iald F (hM.1.2.1 7 rfl).2.1 (hM.1.2.1 7 rfl).2.2 rfl hi40 (by decide) dX5_sees_85 ?_
          refine q_ma 7 (_) rfl hM rfl ?_
          refine q_iast F (hM.1.2.1 7 rfl).2.1 (hM.1.2.1 7 rfl).2.2 rfl hi40 (by decide) dX5_sees_86 ?_
          refine q_mA 7 rfl hM hm (fun S86 hM hm => ?_)
          refine q_iinc F (nI (j + 1)) dX5_sees_87 rfl (nI_inc j) (by decide) rfl ?_
          refine q_goto F 3 dX5_sees_90 rfl ?_
          first
            | exact q_to (ih (j + 1) _ (by omega) (by rw [aSee_s0 (show seeB M (sc 1) key key name port j = false by rw [seeB_1]; first | (rw [decide_eq_true c20]; rfl) | (rw [decide_eq_false c31, Bool.and_false]; rfl) | (rw [e8] at c40; rw [b2_n0 c40, Bool.not_true, Bool.and_false]; rfl) | (rw [em] at c51; rw [b2_0.mp c51, Bool.and_false]))]; rw [u2_self] at hM; exact hM) hm) ⟨rfl, rfl, rfl, rfl, rfl, trivial⟩
            | exact q_to (ih (j + 1) _ (by omega) (by rw [e8] at c40; rw [em] at c51; rw [aSee_s1 (show seeB M (sc 1) key key name port j = true by rw [seeB_1, decide_eq_false c20, decide_eq_true c31, b2_0.mp c40, b2_n0 c51]; rfl)]; exact hM) hm) ⟨rfl, rfl, rfl, rfl, rfl, trivial⟩
        exact absurd c69 (by decide)
      refine q_aload_n F 0 dX5_sees_34 rfl rfl ?_
      refine q_iload F dX5_sees_35 rfl ?_
      refine q_callV_i F (c_X5_hasEnded (M := aSee (seeB M (sc 1) key key name port) (sc 1) M j) hM hi40) gX5_sees_X5_hasEnded rfl hd_X5_hasEnded ⟨Nat.le_of_ble_eq_true rfl, Nat.le_of_ble_eq_true rfl⟩ hM.1.1 rfl rfl rfl (Nat.le_of_ble_eq_true rfl) dX5_sees_37 ⟨Nat.le_of_ble_eq_true rfl, Nat.le_of_ble_eq_true rfl⟩ ?_
      refine q_if_ne F 58 dX5_sees_40 rfl (fun c40 => ?_) (fun c40 => ?_)
      · refine q_iconst F dX5_sees_58 hc_0 ?_
        refine q_istore F dX5_sees_59 (by decide) rfl ?_
        refine q_aload_n F 0 dX5_sees_61 rfl rfl ?_
        refine qg_X5_20 F (hM.1.2.1 7 rfl).1 hM.1.1 dX5_sees_62 ?_
        refine q_iload F dX5_sees_65 rfl ?_
        refine q_iload F dX5_sees_67 rfl ?_
        refine q_if_eq F 79 dX5_sees_69 rfl (fun c69 => ?_) (fun c69 => ?_)
        · refine q_aload_n F 0 dX5_sees_79 rfl rfl ?_
          refine qg_X5_20 F (hM.1.2.1 7 rfl).1 hM.1.1 dX5_sees_80 ?_
          refine q_iload F dX5_sees_83 rfl ?_
          refine q_iald F (hM.1.2.1 7 rfl).2.1 (hM.1.2.1 7 rfl).2.2 rfl hi40 (by decide) dX5_sees_85 ?_
          refine q_ma 7 (_) rfl hM rfl ?_
          refine q_iast F (hM.1.2.1 7 rfl).2.1 (hM.1.2.1 7 rfl).2.2 rfl hi40 (by decide) dX5_sees_86 ?_
          refine q_mA 7 rfl hM hm (fun S86 hM hm => ?_)
          refine q_iinc F (nI (j + 1)) dX5_sees_87 rfl (nI_inc j) (by decide) rfl ?_
          refine q_goto F 3 dX5_sees_90 rfl ?_
          first
            | exact q_to (ih (j + 1) _ (by omega) (by rw [aSee_s0 (show seeB M (sc 1) key key name port j = false by rw [seeB_1]; first | (rw [decide_eq_true c20]; rfl) | (rw [decide_eq_false c31, Bool.and_false]; rfl) | (rw [e8] at c40; rw [b2_n0 c40, Bool.not_true, Bool.and_false]; rfl) | (rw [em] at c51; rw [b2_0.mp c51, Bool.and_false]))]; rw [u2_self] at hM; exact hM) hm) ⟨rfl, rfl, rfl, rfl, rfl, trivial⟩
            | exact q_to (ih (j + 1) _ (by omega) (by rw [e8] at c40; rw [em] at c51; rw [aSee_s1 (show seeB M (sc 1) key key name port j = true by rw [seeB_1, decide_eq_false c20, decide_eq_true c31, b2_0.mp c40, b2_n0 c51]; rfl)]; exact hM) hm) ⟨rfl, rfl, rfl, rfl, rfl, trivial⟩
        exact absurd c69 (by decide)
      refine q_aload_n F 0 dX5_sees_43 rfl rfl ?_
      refine q_iload F dX5_sees_44 rfl ?_
      refine q_iload_n F 1 dX5_sees_46 rfl rfl ?_
      refine q_iload_n F 2 dX5_sees_47 rfl rfl ?_
      refine q_callV_i F (c_X5_isFor (M := aSee (seeB M (sc 1) key key name port) (sc 1) M j) hM hi40 ((congrFun (aSee_f (by decide) j) j).trans h12) hk4) gX5_sees_X5_isFor rfl hd_X5_isFor ⟨Nat.le_of_ble_eq_true rfl, Nat.le_of_ble_eq_true rfl⟩ hM.1.1 rfl rfl rfl (Nat.le_of_ble_eq_true rfl) dX5_sees_48 ⟨Nat.le_of_ble_eq_true rfl, Nat.le_of_ble_eq_true rfl⟩ ?_
      refine q_if_eq F 58 dX5_sees_51 rfl (fun c51 => ?_) (fun c51 => ?_)
      · refine q_iconst F dX5_sees_58 hc_0 ?_
        refine q_istore F dX5_sees_59 (by decide) rfl ?_
        refine q_aload_n F 0 dX5_sees_61 rfl rfl ?_
        refine qg_X5_20 F (hM.1.2.1 7 rfl).1 hM.1.1 dX5_sees_62 ?_
        refine q_iload F dX5_sees_65 rfl ?_
        refine q_iload F dX5_sees_67 rfl ?_
        refine q_if_eq F 79 dX5_sees_69 rfl (fun c69 => ?_) (fun c69 => ?_)
        · refine q_aload_n F 0 dX5_sees_79 rfl rfl ?_
          refine qg_X5_20 F (hM.1.2.1 7 rfl).1 hM.1.1 dX5_sees_80 ?_
          refine q_iload F dX5_sees_83 rfl ?_
          refine q_iald F (hM.1.2.1 7 rfl).2.1 (hM.1.2.1 7 rfl).2.2 rfl hi40 (by decide) dX5_sees_85 ?_
          refine q_ma 7 (_) rfl hM rfl ?_
          refine q_iast F (hM.1.2.1 7 rfl).2.1 (hM.1.2.1 7 rfl).2.2 rfl hi40 (by decide) dX5_sees_86 ?_
          refine q_mA 7 rfl hM hm (fun S86 hM hm => ?_)
          refine q_iinc F (nI (j + 1)) dX5_sees_87 rfl (nI_inc j) (by decide) rfl ?_
          refine q_goto F 3 dX5_sees_90 rfl ?_
          first
            | exact q_to (ih (j + 1) _ (by omega) (by rw [aSee_s0 (show seeB M (sc 1) key key name port j = false by rw [seeB_1]; first | (rw [decide_eq_true c20]; rfl) | (rw [decide_eq_false c31, Bool.and_false]; rfl) | (rw [e8] at c40; rw [b2_n0 c40, Bool.not_true, Bool.and_false]; rfl) | (rw [em] at c51; rw [b2_0.mp c51, Bool.and_false]))]; rw [u2_self] at hM; exact hM) hm) ⟨rfl, rfl, rfl, rfl, rfl, trivial⟩
            | exact q_to (ih (j + 1) _ (by omega) (by rw [e8] at c40; rw [em] at c51; rw [aSee_s1 (show seeB M (sc 1) key key name port j = true by rw [seeB_1, decide_eq_false c20, decide_eq_true c31, b2_0.mp c40, b2_n0 c51]; rfl)]; exact hM) hm) ⟨rfl, rfl, rfl, rfl, rfl, trivial⟩
        exact absurd c69 (by decide)
      refine q_iconst F dX5_sees_54 hc_1 ?_
      refine q_goto F 59 dX5_sees_55 rfl ?_
      refine q_istore F dX5_sees_59 (by decide) rfl ?_
      refine q_aload_n F 0 dX5_sees_61 rfl rfl ?_
      refine qg_X5_20 F (hM.1.2.1 7 rfl).1 hM.1.1 dX5_sees_62 ?_
      refine q_iload F dX5_sees_65 rfl ?_
      refine q_iload F dX5_sees_67 rfl ?_
      refine q_if_eq F 79 dX5_sees_69 rfl (fun c69 => ?_) (fun c69 => ?_)
      · exact absurd c69 (by decide)
      refine q_aload_n F 0 dX5_sees_72 rfl rfl ?_
      refine qg_X5_101 F hM.1.1 dX5_sees_73 ?_
      refine q_mg 1 (sc 1) rfl hM rfl ?_
      refine q_goto F 86 dX5_sees_76 rfl ?_
      refine q_iast F (hM.1.2.1 7 rfl).2.1 (hM.1.2.1 7 rfl).2.2 rfl hi40 (by decide) dX5_sees_86 ?_
      refine q_mA 7 rfl hM hm (fun S86 hM hm => ?_)
      refine q_iinc F (nI (j + 1)) dX5_sees_87 rfl (nI_inc j) (by decide) rfl ?_
      refine q_goto F 3 dX5_sees_90 rfl ?_
      first
        | exact q_to (ih (j + 1) _ (by omega) (by rw [aSee_s0 (show seeB M (sc 1) key key name port j = false by rw [seeB_1]; first | (rw [decide_eq_true c20]; rfl) | (rw [decide_eq_false c31, Bool.and_false]; rfl) | (rw [e8] at c40; rw [b2_n0 c40, Bool.not_true, Bool.and_false]; rfl) | (rw [em] at c51; rw [b2_0.mp c51, Bool.and_false]))]; rw [u2_self] at hM; exact hM) hm) ⟨rfl, rfl, rfl, rfl, rfl, trivial⟩
        | exact q_to (ih (j + 1) _ (by omega) (by rw [e8] at c40; rw [em] at c51; rw [aSee_s1 (show seeB M (sc 1) key key name port j = true by rw [seeB_1, decide_eq_false c20, decide_eq_true c31, b2_0.mp c40, b2_n0 c51]; rfl)]; exact hM) hm) ⟨rfl, rfl, rfl, rfl, rfl, trivial⟩
  exact q_to (L n 0 S (by omega) hM hm) ⟨rfl, rfl, rfl, rfl, rfl, trivial⟩

set_option maxHeartbeats 4000000 in
set_option maxRecDepth 100000 in
theorem c_X5_confirm {l : Launch} {g : hG} {X : va_W} {S : hS} {md : Nat} {ar : Nat → Nat} {sc : Nat → Int32} {M : Nat → Nat → Int32} (hM : mS S md ar sc M) {n : Nat} (hn : sc 4 = nI n) (hn40 : n ≤ 40) : hMet l yX5_confirm wsX5_confirm rm_X5_confirm g X S [.ref md] (mP1 S md ar (decide (¬ sc 29 = -1) && decide (n < 40)) sc M (nI n) (va_up (scN (va_up sc 0 0) (n + 1)) 29 (-1)) (aTr (va_up sc 0 0) M n (sc 30) (sc 31) (sc 29))) := by
  refine h_start (maxL := 1) (ret := (some .int)) (by decide) rfl (Nat.le_of_ble_eq_true rfl) ?_
  intro p e s m args below meth c F hr hinit
  have hm := mdF.rf S
  refine q_aload_n F 0 dX5_confirm_0 rfl rfl ?_
  refine q_aload_n F 0 dX5_confirm_1 rfl rfl ?_
  refine qg_X5_81 F hM.1.1 dX5_confirm_2 ?_
  refine q_mg 29 (sc 29) rfl hM rfl ?_
  refine q_iconst F dX5_confirm_5 hc_m1 ?_
  refine q_icmp_eq F 18 dX5_confirm_6 rfl (fun c6 => ?_) (fun c6 => ?_)
  · refine q_iconst F dX5_confirm_18 hc_1 ?_
    refine q_goto F 23 dX5_confirm_19 rfl ?_
    refine q_callV_gi F (c_X5_holds hM) gX5_confirm_X5_holds rfl hd_X5_holds ⟨Nat.le_of_ble_eq_true rfl, Nat.le_of_ble_eq_true rfl⟩ hM.1.1 rfl rfl rfl (Nat.le_of_ble_eq_true rfl) dX5_confirm_23 ⟨Nat.le_of_ble_eq_true rfl, Nat.le_of_ble_eq_true rfl⟩ (fun r23 S23 hp23 => ?_)
    obtain ⟨rfl, hM, hm23⟩ := hp23
    have hm := hm.trans hm23
    refine q_cz ?_
    refine q_if_ne F 31 dX5_confirm_26 rfl (fun c26 => ?_) (fun c26 => ?_)
    · exact absurd c26 (by decide)
    refine q_iconst F dX5_confirm_29 hc_0 ?_
    exact (q_reti F hr rfl dX5_confirm_30 (Nat.le_of_ble_eq_true rfl) (Nat.le_of_ble_eq_true rfl) ⟨_, rfl, hm, Or.inl ⟨by first | (rw [decide_eq_false (not_not_intro c6)]; rfl) | (rw [nlt40 hn40 c15, Bool.and_false]), hM⟩⟩)
  refine q_aload_n F 0 dX5_confirm_9 rfl rfl ?_
  refine qg_X5_91 F hM.1.1 dX5_confirm_10 ?_
  refine q_mg 4 (nI n) rfl hM hn ?_
  refine q_bipush (v := 40) F dX5_confirm_13 (by decide) ?_
  refine q_icmp_ne F 22 dX5_confirm_15 rfl (fun c15 => ?_) (fun c15 => ?_)
  · refine q_iconst F dX5_confirm_22 hc_0 ?_
    refine q_callV_gi F (c_X5_holds hM) gX5_confirm_X5_holds rfl hd_X5_holds ⟨Nat.le_of_ble_eq_true rfl, Nat.le_of_ble_eq_true rfl⟩ hM.1.1 rfl rfl rfl (Nat.le_of_ble_eq_true rfl) dX5_confirm_23 ⟨Nat.le_of_ble_eq_true rfl, Nat.le_of_ble_eq_true rfl⟩ (fun r23 S23 hp23 => ?_)
    obtain ⟨rfl, hM, hm23⟩ := hp23
    have hm := hm.trans hm23
    refine q_cz ?_
    refine q_if_ne F 31 dX5_confirm_26 rfl (fun c26 => ?_) (fun c26 => ?_)
    · have hlt := ylt40 hn40 c15
      refine q_aload_n F 0 dX5_confirm_31 rfl rfl ?_
      refine q_aload_n F 0 dX5_confirm_32 rfl rfl ?_
      refine qg_X5_179 F hM.1.1 dX5_confirm_33 ?_
      refine q_mg 30 (sc 30) rfl hM rfl ?_
      refine q_aload_n F 0 dX5_confirm_36 rfl rfl ?_
      refine qg_X5_182 F hM.1.1 dX5_confirm_37 ?_
      refine q_mg 31 (sc 31) rfl hM rfl ?_
      refine q_aload_n F 0 dX5_confirm_40 rfl rfl ?_
      refine qg_X5_81 F hM.1.1 dX5_confirm_41 ?_
      refine q_mg 29 (sc 29) rfl hM rfl ?_
      refine q_callV_gv F (c_X5_trusts hM hn hlt) gX5_confirm_X5_trusts rfl hd_X5_trusts ⟨Nat.le_of_ble_eq_true rfl, Nat.le_of_ble_eq_true rfl⟩ hM.1.1 rfl rfl rfl (Nat.le_of_ble_eq_true rfl) dX5_confirm_44 ⟨Nat.le_of_ble_eq_true rfl, Nat.le_of_ble_eq_true rfl⟩ (fun S44 hp44 => ?_)
      obtain ⟨hM, hm44⟩ := hp44
      have hm := hm.trans hm44
      refine q_aload_n F 0 dX5_confirm_47 rfl rfl ?_
      refine q_iconst F dX5_confirm_48 hc_m1 ?_
      refine qp_X5_81 F hM.1.1 dX5_confirm_49 ?_
      refine q_mF 29 hM hm (fun S49 hM hm => ?_)
      refine q_aload_n F 0 dX5_confirm_52 rfl rfl ?_
      refine qg_X5_91 F hM.1.1 dX5_confirm_53 ?_
      refine q_mg 4 (nI (n + 1)) rfl hM rfl ?_
      refine q_iconst F dX5_confirm_56 hc_1 ?_
      refine q_isub F dX5_confirm_57 ?_
      exact (q_reti F hr rfl dX5_confirm_58 (Nat.le_of_ble_eq_true rfl) (Nat.le_of_ble_eq_true rfl) ⟨_, rfl, hm, Or.inr ⟨by rw [decide_eq_true c6, decide_eq_true hlt]; rfl, nI_pred n, hM⟩⟩)
    exact absurd c26 (by decide)
  refine q_iconst F dX5_confirm_18 hc_1 ?_
  refine q_goto F 23 dX5_confirm_19 rfl ?_
  refine q_callV_gi F (c_X5_holds hM) gX5_confirm_X5_holds rfl hd_X5_holds ⟨Nat.le_of_ble_eq_true rfl, Nat.le_of_ble_eq_true rfl⟩ hM.1.1 rfl rfl rfl (Nat.le_of_ble_eq_true rfl) dX5_confirm_23 ⟨Nat.le_of_ble_eq_true rfl, Nat.le_of_ble_eq_true rfl⟩ (fun r23 S23 hp23 => ?_)
  obtain ⟨rfl, hM, hm23⟩ := hp23
  have hm := hm.trans hm23
  refine q_cz ?_
  refine q_if_ne F 31 dX5_confirm_26 rfl (fun c26 => ?_) (fun c26 => ?_)
  · exact absurd c26 (by decide)
  refine q_iconst F dX5_confirm_29 hc_0 ?_
  exact (q_reti F hr rfl dX5_confirm_30 (Nat.le_of_ble_eq_true rfl) (Nat.le_of_ble_eq_true rfl) ⟨_, rfl, hm, Or.inl ⟨by first | (rw [decide_eq_false (not_not_intro c6)]; rfl) | (rw [nlt40 hn40 c15, Bool.and_false]), hM⟩⟩)

set_option maxHeartbeats 4000000 in
set_option maxRecDepth 100000 in
theorem c_X5_pass {l : Launch} {g : hG} {X : va_W} {S : hS} {md : Nat} {ar : Nat → Nat} {sc : Nat → Int32} {M : Nat → Nat → Int32} (hM : mS S md ar sc M) {days : Int32} : hMet l yX5_pass wsX5_pass rm_X5_pass g X S [.ref md, .int days] (mP2 S md ar (inR days 1 1000) (decide (sc 1 + days ≤ 5000)) sc M (sc 1 + days) (va_up (va_up sc 0 0) 1 (sc 1 + days)) M) := by
  refine h_start (maxL := 2) (ret := (some .int)) (by decide) rfl (Nat.le_of_ble_eq_true rfl) ?_
  intro p e s m args below meth c F hr hinit
  have hm := mdF.rf S
  refine q_aload_n F 0 dX5_pass_0 rfl rfl ?_
  refine q_iload_n F 1 dX5_pass_1 rfl rfl ?_
  refine q_iconst F dX5_pass_2 hc_1 ?_
  refine q_sipush (v := 1000) F dX5_pass_3 (by decide) ?_
  refine q_callS_i F (c_X5_isIn) gX5_pass_X5_isIn rfl hd_X5_isIn ⟨Nat.le_of_ble_eq_true rfl, Nat.le_of_ble_eq_true rfl⟩ rfl rfl (Nat.le_of_ble_eq_true rfl) dX5_pass_6 ⟨Nat.le_of_ble_eq_true rfl, Nat.le_of_ble_eq_true rfl⟩ ?_
  refine q_if_ne F 16 dX5_pass_9 rfl (fun c9 => ?_) (fun c9 => ?_)
  · refine q_aload_n F 0 dX5_pass_16 rfl rfl ?_
    refine qg_X5_101 F hM.1.1 dX5_pass_17 ?_
    refine q_mg 1 (sc 1) rfl hM rfl ?_
    refine q_iload_n F 1 dX5_pass_20 rfl rfl ?_
    refine q_iadd F dX5_pass_21 ?_
    refine q_sipush (v := 5000) F dX5_pass_22 (by decide) ?_
    refine q_icmp_le F 32 dX5_pass_25 rfl (fun c25 => ?_) (fun c25 => ?_)
    · refine q_iconst F dX5_pass_32 hc_0 ?_
      refine q_callV_gi F (c_X5_holds hM) gX5_pass_X5_holds rfl hd_X5_holds ⟨Nat.le_of_ble_eq_true rfl, Nat.le_of_ble_eq_true rfl⟩ hM.1.1 rfl rfl rfl (Nat.le_of_ble_eq_true rfl) dX5_pass_33 ⟨Nat.le_of_ble_eq_true rfl, Nat.le_of_ble_eq_true rfl⟩ (fun r33 S33 hp33 => ?_)
      obtain ⟨rfl, hM, hm33⟩ := hp33
      have hm := hm.trans hm33
      refine q_cz ?_
      refine q_if_ne F 41 dX5_pass_36 rfl (fun c36 => ?_) (fun c36 => ?_)
      · refine q_aload_n F 0 dX5_pass_41 rfl rfl ?_
        refine q_dup F dX5_pass_42 rfl ?_
        refine qg_X5_101 F hM.1.1 dX5_pass_43 ?_
        refine q_mg 1 (sc 1) rfl hM rfl ?_
        refine q_iload_n F 1 dX5_pass_46 rfl rfl ?_
        refine q_iadd F dX5_pass_47 ?_
        refine qp_X5_101 F hM.1.1 dX5_pass_48 ?_
        refine q_mF 1 hM hm (fun S48 hM hm => ?_)
        refine q_aload_n F 0 dX5_pass_51 rfl rfl ?_
        refine qg_X5_101 F hM.1.1 dX5_pass_52 ?_
        refine q_mg 1 (sc 1 + days) rfl hM rfl ?_
        exact (q_reti F hr rfl dX5_pass_55 (Nat.le_of_ble_eq_true rfl) (Nat.le_of_ble_eq_true rfl) ⟨_, rfl, hm, Or.inr (Or.inr ⟨b2_n0 c9, decide_eq_true c25, rfl, hM⟩)⟩)
      exact absurd c36 (by decide)
    refine q_iconst F dX5_pass_28 hc_2 ?_
    refine q_goto F 33 dX5_pass_29 rfl ?_
    refine q_callV_gi F (c_X5_holds hM) gX5_pass_X5_holds rfl hd_X5_holds ⟨Nat.le_of_ble_eq_true rfl, Nat.le_of_ble_eq_true rfl⟩ hM.1.1 rfl rfl rfl (Nat.le_of_ble_eq_true rfl) dX5_pass_33 ⟨Nat.le_of_ble_eq_true rfl, Nat.le_of_ble_eq_true rfl⟩ (fun r33 S33 hp33 => ?_)
    obtain ⟨rfl, hM, hm33⟩ := hp33
    have hm := hm.trans hm33
    refine q_cz ?_
    refine q_if_ne F 41 dX5_pass_36 rfl (fun c36 => ?_) (fun c36 => ?_)
    · exact absurd c36 (by decide)
    refine q_iconst F dX5_pass_39 hc_0 ?_
    exact (q_reti F hr rfl dX5_pass_40 (Nat.le_of_ble_eq_true rfl) (Nat.le_of_ble_eq_true rfl) ⟨_, rfl, hm, by first | exact Or.inl ⟨b2_0.mp c9, hM⟩ | exact Or.inr (Or.inl ⟨b2_n0 c9, decide_eq_false c25, hM⟩)⟩)
  refine q_iconst F dX5_pass_12 hc_1 ?_
  refine q_goto F 33 dX5_pass_13 rfl ?_
  refine q_callV_gi F (c_X5_holds hM) gX5_pass_X5_holds rfl hd_X5_holds ⟨Nat.le_of_ble_eq_true rfl, Nat.le_of_ble_eq_true rfl⟩ hM.1.1 rfl rfl rfl (Nat.le_of_ble_eq_true rfl) dX5_pass_33 ⟨Nat.le_of_ble_eq_true rfl, Nat.le_of_ble_eq_true rfl⟩ (fun r33 S33 hp33 => ?_)
  obtain ⟨rfl, hM, hm33⟩ := hp33
  have hm := hm.trans hm33
  refine q_cz ?_
  refine q_if_ne F 41 dX5_pass_36 rfl (fun c36 => ?_) (fun c36 => ?_)
  · exact absurd c36 (by decide)
  refine q_iconst F dX5_pass_39 hc_0 ?_
  exact (q_reti F hr rfl dX5_pass_40 (Nat.le_of_ble_eq_true rfl) (Nat.le_of_ble_eq_true rfl) ⟨_, rfl, hm, by first | exact Or.inl ⟨b2_0.mp c9, hM⟩ | exact Or.inr (Or.inl ⟨b2_n0 c9, decide_eq_false c25, hM⟩)⟩)

set_option maxHeartbeats 4000000 in
set_option maxRecDepth 100000 in
theorem c_X5_day {l : Launch} {g : hG} {X : va_W} {S : hS} {md : Nat} {ar : Nat → Nat} {sc : Nat → Int32} {M : Nat → Nat → Int32} (hM : mS S md ar sc M) : hMet l yX5_day wsX5_day rm_X5_day g X S [.ref md] (mI S md ar (sc 1) (va_up sc 0 0) M) := by
  refine h_start (maxL := 1) (ret := (some .int)) (by decide) rfl (Nat.le_of_ble_eq_true rfl) ?_
  intro p e s m args below meth c F hr hinit
  have hm := mdF.rf S
  refine q_aload_n F 0 dX5_day_0 rfl rfl ?_
  refine q_iconst F dX5_day_1 hc_0 ?_
  refine qp_X5_84 F hM.1.1 dX5_day_2 ?_
  refine q_mF 0 hM hm (fun S2 hM hm => ?_)
  refine q_aload_n F 0 dX5_day_5 rfl rfl ?_
  refine qg_X5_101 F hM.1.1 dX5_day_6 ?_
  refine q_mg 1 (_) rfl hM rfl ?_
  exact (q_reti F hr rfl dX5_day_9 (Nat.le_of_ble_eq_true rfl) (Nat.le_of_ble_eq_true rfl) ⟨_, rfl, rfl, hM, hm⟩)

set_option maxHeartbeats 4000000 in
set_option maxRecDepth 100000 in
theorem c_X5_lines {l : Launch} {g : hG} {X : va_W} {S : hS} {md : Nat} {ar : Nat → Nat} {sc : Nat → Int32} {M : Nat → Nat → Int32} (hM : mS S md ar sc M) : hMet l yX5_lines wsX5_lines rm_X5_lines g X S [.ref md] (mI S md ar (sc 4) (va_up sc 0 0) M) := by
  refine h_start (maxL := 1) (ret := (some .int)) (by decide) rfl (Nat.le_of_ble_eq_true rfl) ?_
  intro p e s m args below meth c F hr hinit
  have hm := mdF.rf S
  refine q_aload_n F 0 dX5_lines_0 rfl rfl ?_
  refine q_iconst F dX5_lines_1 hc_0 ?_
  refine qp_X5_84 F hM.1.1 dX5_lines_2 ?_
  refine q_mF 0 hM hm (fun S2 hM hm => ?_)
  refine q_aload_n F 0 dX5_lines_5 rfl rfl ?_
  refine qg_X5_91 F hM.1.1 dX5_lines_6 ?_
  refine q_mg 4 (_) rfl hM rfl ?_
  exact (q_reti F hr rfl dX5_lines_9 (Nat.le_of_ble_eq_true rfl) (Nat.le_of_ble_eq_true rfl) ⟨_, rfl, rfl, hM, hm⟩)

set_option maxHeartbeats 4000000 in
set_option maxRecDepth 100000 in
theorem c_X5_waiting {l : Launch} {g : hG} {X : va_W} {S : hS} {md : Nat} {ar : Nat → Nat} {sc : Nat → Int32} {M : Nat → Nat → Int32} (hM : mS S md ar sc M) : hMet l yX5_waiting wsX5_waiting rm_X5_waiting g X S [.ref md] (mI S md ar (sc 29) (va_up sc 0 0) M) := by
  refine h_start (maxL := 1) (ret := (some .int)) (by decide) rfl (Nat.le_of_ble_eq_true rfl) ?_
  intro p e s m args below meth c F hr hinit
  have hm := mdF.rf S
  refine q_aload_n F 0 dX5_waiting_0 rfl rfl ?_
  refine q_iconst F dX5_waiting_1 hc_0 ?_
  refine qp_X5_84 F hM.1.1 dX5_waiting_2 ?_
  refine q_mF 0 hM hm (fun S2 hM hm => ?_)
  refine q_aload_n F 0 dX5_waiting_5 rfl rfl ?_
  refine qg_X5_81 F hM.1.1 dX5_waiting_6 ?_
  refine q_mg 29 (_) rfl hM rfl ?_
  exact (q_reti F hr rfl dX5_waiting_9 (Nat.le_of_ble_eq_true rfl) (Nat.le_of_ble_eq_true rfl) ⟨_, rfl, rfl, hM, hm⟩)

set_option maxHeartbeats 4000000 in
set_option maxRecDepth 100000 in
theorem c_X5_keyOf {l : Launch} {g : hG} {X : va_W} {S : hS} {md : Nat} {ar : Nat → Nat} {sc : Nat → Int32} {M : Nat → Nat → Int32} (hM : mS S md ar sc M) {n : Nat} (hn : sc 4 = nI n) (hn40 : n ≤ 40) {v : Int32} : hMet l yX5_keyOf wsX5_keyOf rm_X5_keyOf g X S [.ref md, .int v] (mP1 S md ar (inL v n) sc M (1000 * M 6 v.toNatClampNeg + M 5 v.toNatClampNeg) (va_up sc 0 0) M) := by
  refine h_start (maxL := 2) (ret := (some .int)) (by decide) rfl (Nat.le_of_ble_eq_true rfl) ?_
  intro p e s m args below meth c F hr hinit
  have hm := mdF.rf S
  refine q_aload_n F 0 dX5_keyOf_0 rfl rfl ?_
  refine q_aload_n F 0 dX5_keyOf_1 rfl rfl ?_
  refine q_iload_n F 1 dX5_keyOf_2 rfl rfl ?_
  refine q_callV_i F (c_X5_isLine hM hn hn40) gX5_keyOf_X5_isLine rfl hd_X5_isLine ⟨Nat.le_of_ble_eq_true rfl, Nat.le_of_ble_eq_true rfl⟩ hM.1.1 rfl rfl rfl (Nat.le_of_ble_eq_true rfl) dX5_keyOf_3 ⟨Nat.le_of_ble_eq_true rfl, Nat.le_of_ble_eq_true rfl⟩ ?_
  refine q_if_eq F 13 dX5_keyOf_6 rfl (fun c6 => ?_) (fun c6 => ?_)
  · refine q_iconst F dX5_keyOf_13 hc_1 ?_
    refine q_callV_gi F (c_X5_holds hM) gX5_keyOf_X5_holds rfl hd_X5_holds ⟨Nat.le_of_ble_eq_true rfl, Nat.le_of_ble_eq_true rfl⟩ hM.1.1 rfl rfl rfl (Nat.le_of_ble_eq_true rfl) dX5_keyOf_14 ⟨Nat.le_of_ble_eq_true rfl, Nat.le_of_ble_eq_true rfl⟩ (fun r14 S14 hp14 => ?_)
    obtain ⟨rfl, hM, hm14⟩ := hp14
    have hm := hm.trans hm14
    refine q_cz ?_
    refine q_if_eq F 40 dX5_keyOf_17 rfl (fun c17 => ?_) (fun c17 => ?_)
    · refine q_iconst F dX5_keyOf_40 hc_0 ?_
      exact (q_reti F hr rfl dX5_keyOf_41 (Nat.le_of_ble_eq_true rfl) (Nat.le_of_ble_eq_true rfl) ⟨_, rfl, hm, by first | exact Or.inl ⟨b2_0.mp c6, hM⟩ | exact Or.inr ⟨b2_n0 c6, rfl, hM⟩⟩)
    exact absurd c17 (by decide)
  refine q_iconst F dX5_keyOf_9 hc_0 ?_
  refine q_goto F 14 dX5_keyOf_10 rfl ?_
  refine q_callV_gi F (c_X5_holds hM) gX5_keyOf_X5_holds rfl hd_X5_holds ⟨Nat.le_of_ble_eq_true rfl, Nat.le_of_ble_eq_true rfl⟩ hM.1.1 rfl rfl rfl (Nat.le_of_ble_eq_true rfl) dX5_keyOf_14 ⟨Nat.le_of_ble_eq_true rfl, Nat.le_of_ble_eq_true rfl⟩ (fun r14 S14 hp14 => ?_)
  obtain ⟨rfl, hM, hm14⟩ := hp14
  have hm := hm.trans hm14
  refine q_cz ?_
  refine q_if_eq F 40 dX5_keyOf_17 rfl (fun c17 => ?_) (fun c17 => ?_)
  · exact absurd c17 (by decide)
  obtain ⟨j, hj, rfl⟩ := inL_get (b2_n0 c6) (by omega)
  have hcl : (nI j).toNatClampNeg = j := nI_clamp (by omega)
  rw [hcl]
  have hi40 : j < 40 := by omega
  refine q_sipush (v := 1000) F dX5_keyOf_20 (by decide) ?_
  refine q_aload_n F 0 dX5_keyOf_23 rfl rfl ?_
  refine qg_X5_17 F (hM.1.2.1 6 rfl).1 hM.1.1 dX5_keyOf_24 ?_
  refine q_iload_n F 1 dX5_keyOf_27 rfl rfl ?_
  refine q_iald F (hM.1.2.1 6 rfl).2.1 (hM.1.2.1 6 rfl).2.2 rfl hi40 (by decide) dX5_keyOf_28 ?_
  refine q_ma 6 (_) rfl hM rfl ?_
  refine q_imul F dX5_keyOf_29 ?_
  refine q_aload_n F 0 dX5_keyOf_30 rfl rfl ?_
  refine qg_X5_13 F (hM.1.2.1 5 rfl).1 hM.1.1 dX5_keyOf_31 ?_
  refine q_iload_n F 1 dX5_keyOf_34 rfl rfl ?_
  refine q_iald F (hM.1.2.1 5 rfl).2.1 (hM.1.2.1 5 rfl).2.2 rfl hi40 (by decide) dX5_keyOf_35 ?_
  refine q_ma 5 (_) rfl hM rfl ?_
  refine q_iadd F dX5_keyOf_36 ?_
  refine q_goto F 41 dX5_keyOf_37 rfl ?_
  exact (q_reti F hr rfl dX5_keyOf_41 (Nat.le_of_ble_eq_true rfl) (Nat.le_of_ble_eq_true rfl) ⟨_, rfl, hm, by first | exact Or.inl ⟨b2_0.mp c6, hM⟩ | exact Or.inr ⟨b2_n0 c6, rfl, hM⟩⟩)

set_option maxHeartbeats 4000000 in
set_option maxRecDepth 100000 in
theorem c_X5_seen {l : Launch} {g : hG} {X : va_W} {S : hS} {md : Nat} {ar : Nat → Nat} {sc : Nat → Int32} {M : Nat → Nat → Int32} (hM : mS S md ar sc M) {n : Nat} (hn : sc 4 = nI n) (hn40 : n ≤ 40) {v : Int32} : hMet l yX5_seen wsX5_seen rm_X5_seen g X S [.ref md, .int v] (mP1 S md ar (inL v n) sc M (M 7 v.toNatClampNeg) (va_up sc 0 0) M) := by
  refine h_start (maxL := 2) (ret := (some .int)) (by decide) rfl (Nat.le_of_ble_eq_true rfl) ?_
  intro p e s m args below meth c F hr hinit
  have hm := mdF.rf S
  refine q_aload_n F 0 dX5_seen_0 rfl rfl ?_
  refine q_aload_n F 0 dX5_seen_1 rfl rfl ?_
  refine q_iload_n F 1 dX5_seen_2 rfl rfl ?_
  refine q_callV_i F (c_X5_isLine hM hn hn40) gX5_seen_X5_isLine rfl hd_X5_isLine ⟨Nat.le_of_ble_eq_true rfl, Nat.le_of_ble_eq_true rfl⟩ hM.1.1 rfl rfl rfl (Nat.le_of_ble_eq_true rfl) dX5_seen_3 ⟨Nat.le_of_ble_eq_true rfl, Nat.le_of_ble_eq_true rfl⟩ ?_
  refine q_if_eq F 13 dX5_seen_6 rfl (fun c6 => ?_) (fun c6 => ?_)
  · refine q_iconst F dX5_seen_13 hc_1 ?_
    refine q_callV_gi F (c_X5_holds hM) gX5_seen_X5_holds rfl hd_X5_holds ⟨Nat.le_of_ble_eq_true rfl, Nat.le_of_ble_eq_true rfl⟩ hM.1.1 rfl rfl rfl (Nat.le_of_ble_eq_true rfl) dX5_seen_14 ⟨Nat.le_of_ble_eq_true rfl, Nat.le_of_ble_eq_true rfl⟩ (fun r14 S14 hp14 => ?_)
    obtain ⟨rfl, hM, hm14⟩ := hp14
    have hm := hm.trans hm14
    refine q_cz ?_
    refine q_if_eq F 29 dX5_seen_17 rfl (fun c17 => ?_) (fun c17 => ?_)
    · refine q_iconst F dX5_seen_29 hc_0 ?_
      exact (q_reti F hr rfl dX5_seen_30 (Nat.le_of_ble_eq_true rfl) (Nat.le_of_ble_eq_true rfl) ⟨_, rfl, hm, by first | exact Or.inl ⟨b2_0.mp c6, hM⟩ | exact Or.inr ⟨b2_n0 c6, rfl, hM⟩⟩)
    exact absurd c17 (by decide)
  refine q_iconst F dX5_seen_9 hc_0 ?_
  refine q_goto F 14 dX5_seen_10 rfl ?_
  refine q_callV_gi F (c_X5_holds hM) gX5_seen_X5_holds rfl hd_X5_holds ⟨Nat.le_of_ble_eq_true rfl, Nat.le_of_ble_eq_true rfl⟩ hM.1.1 rfl rfl rfl (Nat.le_of_ble_eq_true rfl) dX5_seen_14 ⟨Nat.le_of_ble_eq_true rfl, Nat.le_of_ble_eq_true rfl⟩ (fun r14 S14 hp14 => ?_)
  obtain ⟨rfl, hM, hm14⟩ := hp14
  have hm := hm.trans hm14
  refine q_cz ?_
  refine q_if_eq F 29 dX5_seen_17 rfl (fun c17 => ?_) (fun c17 => ?_)
  · exact absurd c17 (by decide)
  obtain ⟨j, hj, rfl⟩ := inL_get (b2_n0 c6) (by omega)
  have hcl : (nI j).toNatClampNeg = j := nI_clamp (by omega)
  rw [hcl]
  have hi40 : j < 40 := by omega
  refine q_aload_n F 0 dX5_seen_20 rfl rfl ?_
  refine qg_X5_20 F (hM.1.2.1 7 rfl).1 hM.1.1 dX5_seen_21 ?_
  refine q_iload_n F 1 dX5_seen_24 rfl rfl ?_
  refine q_iald F (hM.1.2.1 7 rfl).2.1 (hM.1.2.1 7 rfl).2.2 rfl hi40 (by decide) dX5_seen_25 ?_
  refine q_ma 7 (_) rfl hM rfl ?_
  refine q_goto F 30 dX5_seen_26 rfl ?_
  exact (q_reti F hr rfl dX5_seen_30 (Nat.le_of_ble_eq_true rfl) (Nat.le_of_ble_eq_true rfl) ⟨_, rfl, hm, by first | exact Or.inl ⟨b2_0.mp c6, hM⟩ | exact Or.inr ⟨b2_n0 c6, rfl, hM⟩⟩)

set_option maxHeartbeats 4000000 in
set_option maxRecDepth 100000 in
theorem c_X5_end {l : Launch} {g : hG} {X : va_W} {S : hS} {md : Nat} {ar : Nat → Nat} {sc : Nat → Int32} {M : Nat → Nat → Int32} (hM : mS S md ar sc M) {n : Nat} (hn : sc 4 = nI n) (hn40 : n ≤ 40) {v : Int32} : hMet l yX5_end wsX5_end rm_X5_end g X S [.ref md, .int v] (mP1 S md ar (inL v n) sc M (M 8 v.toNatClampNeg) (va_up sc 0 0) M) := by
  refine h_start (maxL := 2) (ret := (some .int)) (by decide) rfl (Nat.le_of_ble_eq_true rfl) ?_
  intro p e s m args below meth c F hr hinit
  have hm := mdF.rf S
  refine q_aload_n F 0 dX5_end_0 rfl rfl ?_
  refine q_aload_n F 0 dX5_end_1 rfl rfl ?_
  refine q_iload_n F 1 dX5_end_2 rfl rfl ?_
  refine q_callV_i F (c_X5_isLine hM hn hn40) gX5_end_X5_isLine rfl hd_X5_isLine ⟨Nat.le_of_ble_eq_true rfl, Nat.le_of_ble_eq_true rfl⟩ hM.1.1 rfl rfl rfl (Nat.le_of_ble_eq_true rfl) dX5_end_3 ⟨Nat.le_of_ble_eq_true rfl, Nat.le_of_ble_eq_true rfl⟩ ?_
  refine q_if_eq F 13 dX5_end_6 rfl (fun c6 => ?_) (fun c6 => ?_)
  · refine q_iconst F dX5_end_13 hc_1 ?_
    refine q_callV_gi F (c_X5_holds hM) gX5_end_X5_holds rfl hd_X5_holds ⟨Nat.le_of_ble_eq_true rfl, Nat.le_of_ble_eq_true rfl⟩ hM.1.1 rfl rfl rfl (Nat.le_of_ble_eq_true rfl) dX5_end_14 ⟨Nat.le_of_ble_eq_true rfl, Nat.le_of_ble_eq_true rfl⟩ (fun r14 S14 hp14 => ?_)
    obtain ⟨rfl, hM, hm14⟩ := hp14
    have hm := hm.trans hm14
    refine q_cz ?_
    refine q_if_eq F 29 dX5_end_17 rfl (fun c17 => ?_) (fun c17 => ?_)
    · refine q_iconst F dX5_end_29 hc_0 ?_
      exact (q_reti F hr rfl dX5_end_30 (Nat.le_of_ble_eq_true rfl) (Nat.le_of_ble_eq_true rfl) ⟨_, rfl, hm, by first | exact Or.inl ⟨b2_0.mp c6, hM⟩ | exact Or.inr ⟨b2_n0 c6, rfl, hM⟩⟩)
    exact absurd c17 (by decide)
  refine q_iconst F dX5_end_9 hc_0 ?_
  refine q_goto F 14 dX5_end_10 rfl ?_
  refine q_callV_gi F (c_X5_holds hM) gX5_end_X5_holds rfl hd_X5_holds ⟨Nat.le_of_ble_eq_true rfl, Nat.le_of_ble_eq_true rfl⟩ hM.1.1 rfl rfl rfl (Nat.le_of_ble_eq_true rfl) dX5_end_14 ⟨Nat.le_of_ble_eq_true rfl, Nat.le_of_ble_eq_true rfl⟩ (fun r14 S14 hp14 => ?_)
  obtain ⟨rfl, hM, hm14⟩ := hp14
  have hm := hm.trans hm14
  refine q_cz ?_
  refine q_if_eq F 29 dX5_end_17 rfl (fun c17 => ?_) (fun c17 => ?_)
  · exact absurd c17 (by decide)
  obtain ⟨j, hj, rfl⟩ := inL_get (b2_n0 c6) (by omega)
  have hcl : (nI j).toNatClampNeg = j := nI_clamp (by omega)
  rw [hcl]
  have hi40 : j < 40 := by omega
  refine q_aload_n F 0 dX5_end_20 rfl rfl ?_
  refine qg_X5_23 F (hM.1.2.1 8 rfl).1 hM.1.1 dX5_end_21 ?_
  refine q_iload_n F 1 dX5_end_24 rfl rfl ?_
  refine q_iald F (hM.1.2.1 8 rfl).2.1 (hM.1.2.1 8 rfl).2.2 rfl hi40 (by decide) dX5_end_25 ?_
  refine q_ma 8 (_) rfl hM rfl ?_
  refine q_goto F 30 dX5_end_26 rfl ?_
  exact (q_reti F hr rfl dX5_end_30 (Nat.le_of_ble_eq_true rfl) (Nat.le_of_ble_eq_true rfl) ⟨_, rfl, hm, by first | exact Or.inl ⟨b2_0.mp c6, hM⟩ | exact Or.inr ⟨b2_n0 c6, rfl, hM⟩⟩)

set_option maxHeartbeats 4000000 in
set_option maxRecDepth 100000 in
theorem c_X5_matches {l : Launch} {g : hG} {X : va_W} {S : hS} {md : Nat} {ar : Nat → Nat} {sc : Nat → Int32} {M : Nat → Nat → Int32} (hM : mS S md ar sc M) {n : Nat} (hn : sc 4 = nI n) (hn40 : n ≤ 40) (hsz : ∀ i, i < n → ∃ k, k ≤ 4 ∧ M 12 i = nI k) {v name port : Int32} : hMet l yX5_matches wsX5_matches rm_X5_matches g X S [.ref md, .int v, .int name, .int port] (mP2 S md ar (inL v n) (okNP name port) sc M (b2 (mt M v.toNatClampNeg name port)) (va_up sc 0 0) M) := by
  refine h_start (maxL := 4) (ret := (some .boolean)) (by decide) rfl (Nat.le_of_ble_eq_true rfl) ?_
  intro p e s m args below meth c F hr hinit
  have hm := mdF.rf S
  refine q_aload_n F 0 dX5_matches_0 rfl rfl ?_
  refine q_aload_n F 0 dX5_matches_1 rfl rfl ?_
  refine q_iload_n F 1 dX5_matches_2 rfl rfl ?_
  refine q_callV_i F (c_X5_isLine hM hn hn40) gX5_matches_X5_isLine rfl hd_X5_isLine ⟨Nat.le_of_ble_eq_true rfl, Nat.le_of_ble_eq_true rfl⟩ hM.1.1 rfl rfl rfl (Nat.le_of_ble_eq_true rfl) dX5_matches_3 ⟨Nat.le_of_ble_eq_true rfl, Nat.le_of_ble_eq_true rfl⟩ ?_
  refine q_if_ne F 13 dX5_matches_6 rfl (fun c6 => ?_) (fun c6 => ?_)
  · refine q_iload_n F 2 dX5_matches_13 rfl rfl ?_
    refine q_callS_i F (c_X5_isName) gX5_matches_X5_isName rfl hd_X5_isName ⟨Nat.le_of_ble_eq_true rfl, Nat.le_of_ble_eq_true rfl⟩ rfl rfl (Nat.le_of_ble_eq_true rfl) dX5_matches_14 ⟨Nat.le_of_ble_eq_true rfl, Nat.le_of_ble_eq_true rfl⟩ ?_
    refine q_if_eq F 31 dX5_matches_17 rfl (fun c17 => ?_) (fun c17 => ?_)
    · refine q_iconst F dX5_matches_31 hc_2 ?_
      refine q_callV_gi F (c_X5_holds hM) gX5_matches_X5_holds rfl hd_X5_holds ⟨Nat.le_of_ble_eq_true rfl, Nat.le_of_ble_eq_true rfl⟩ hM.1.1 rfl rfl rfl (Nat.le_of_ble_eq_true rfl) dX5_matches_32 ⟨Nat.le_of_ble_eq_true rfl, Nat.le_of_ble_eq_true rfl⟩ (fun r32 S32 hp32 => ?_)
      obtain ⟨rfl, hM, hm32⟩ := hp32
      have hm := hm.trans hm32
      refine q_cz ?_
      refine q_if_eq F 52 dX5_matches_35 rfl (fun c35 => ?_) (fun c35 => ?_)
      · refine q_iconst F dX5_matches_52 hc_0 ?_
        exact (q_reti F hr rfl dX5_matches_53 (Nat.le_of_ble_eq_true rfl) (Nat.le_of_ble_eq_true rfl) ⟨_, rfl, hm, by unfold okNP; first | exact Or.inl ⟨b2_0.mp c6, hM⟩ | exact Or.inr (Or.inl ⟨b2_n0 c6, by first | (rw [b2_0.mp c17]; rfl) | (rw [b2_0.mp c24, Bool.and_false]), hM⟩) | exact Or.inr (Or.inr ⟨b2_n0 c6, by rw [b2_n0 c17, b2_n0 c24]; rfl, by first | (rw [b2_0.mp c45]; rfl) | (rw [b2_n0 c45]; rfl), hM⟩)⟩)
      exact absurd c35 (by decide)
    refine q_iload_n F 3 dX5_matches_20 rfl rfl ?_
    refine q_callS_i F (c_X5_isPort) gX5_matches_X5_isPort rfl hd_X5_isPort ⟨Nat.le_of_ble_eq_true rfl, Nat.le_of_ble_eq_true rfl⟩ rfl rfl (Nat.le_of_ble_eq_true rfl) dX5_matches_21 ⟨Nat.le_of_ble_eq_true rfl, Nat.le_of_ble_eq_true rfl⟩ ?_
    refine q_if_eq F 31 dX5_matches_24 rfl (fun c24 => ?_) (fun c24 => ?_)
    · refine q_iconst F dX5_matches_31 hc_2 ?_
      refine q_callV_gi F (c_X5_holds hM) gX5_matches_X5_holds rfl hd_X5_holds ⟨Nat.le_of_ble_eq_true rfl, Nat.le_of_ble_eq_true rfl⟩ hM.1.1 rfl rfl rfl (Nat.le_of_ble_eq_true rfl) dX5_matches_32 ⟨Nat.le_of_ble_eq_true rfl, Nat.le_of_ble_eq_true rfl⟩ (fun r32 S32 hp32 => ?_)
      obtain ⟨rfl, hM, hm32⟩ := hp32
      have hm := hm.trans hm32
      refine q_cz ?_
      refine q_if_eq F 52 dX5_matches_35 rfl (fun c35 => ?_) (fun c35 => ?_)
      · refine q_iconst F dX5_matches_52 hc_0 ?_
        exact (q_reti F hr rfl dX5_matches_53 (Nat.le_of_ble_eq_true rfl) (Nat.le_of_ble_eq_true rfl) ⟨_, rfl, hm, by unfold okNP; first | exact Or.inl ⟨b2_0.mp c6, hM⟩ | exact Or.inr (Or.inl ⟨b2_n0 c6, by first | (rw [b2_0.mp c17]; rfl) | (rw [b2_0.mp c24, Bool.and_false]), hM⟩) | exact Or.inr (Or.inr ⟨b2_n0 c6, by rw [b2_n0 c17, b2_n0 c24]; rfl, by first | (rw [b2_0.mp c45]; rfl) | (rw [b2_n0 c45]; rfl), hM⟩)⟩)
      exact absurd c35 (by decide)
    refine q_iconst F dX5_matches_27 hc_0 ?_
    refine q_goto F 32 dX5_matches_28 rfl ?_
    refine q_callV_gi F (c_X5_holds hM) gX5_matches_X5_holds rfl hd_X5_holds ⟨Nat.le_of_ble_eq_true rfl, Nat.le_of_ble_eq_true rfl⟩ hM.1.1 rfl rfl rfl (Nat.le_of_ble_eq_true rfl) dX5_matches_32 ⟨Nat.le_of_ble_eq_true rfl, Nat.le_of_ble_eq_true rfl⟩ (fun r32 S32 hp32 => ?_)
    obtain ⟨rfl, hM, hm32⟩ := hp32
    have hm := hm.trans hm32
    refine q_cz ?_
    refine q_if_eq F 52 dX5_matches_35 rfl (fun c35 => ?_) (fun c35 => ?_)
    · exact absurd c35 (by decide)
    obtain ⟨j, hj, rfl⟩ := inL_get (b2_n0 c6) (by omega)
    have hcl : (nI j).toNatClampNeg = j := nI_clamp (by omega)
    rw [hcl]
    have hi40 : j < 40 := by omega
    obtain ⟨k, hk4, h12⟩ := hsz j hj
    refine q_aload_n F 0 dX5_matches_38 rfl rfl ?_
    refine q_iload_n F 1 dX5_matches_39 rfl rfl ?_
    refine q_iload_n F 2 dX5_matches_40 rfl rfl ?_
    refine q_iload_n F 3 dX5_matches_41 rfl rfl ?_
    refine q_callV_i F (c_X5_isFor (M := M) hM hi40 h12 hk4) gX5_matches_X5_isFor rfl hd_X5_isFor ⟨Nat.le_of_ble_eq_true rfl, Nat.le_of_ble_eq_true rfl⟩ hM.1.1 rfl rfl rfl (Nat.le_of_ble_eq_true rfl) dX5_matches_42 ⟨Nat.le_of_ble_eq_true rfl, Nat.le_of_ble_eq_true rfl⟩ ?_
    refine q_if_eq F 52 dX5_matches_45 rfl (fun c45 => ?_) (fun c45 => ?_)
    · refine q_iconst F dX5_matches_52 hc_0 ?_
      exact (q_reti F hr rfl dX5_matches_53 (Nat.le_of_ble_eq_true rfl) (Nat.le_of_ble_eq_true rfl) ⟨_, rfl, hm, by unfold okNP; first | exact Or.inl ⟨b2_0.mp c6, hM⟩ | exact Or.inr (Or.inl ⟨b2_n0 c6, by first | (rw [b2_0.mp c17]; rfl) | (rw [b2_0.mp c24, Bool.and_false]), hM⟩) | exact Or.inr (Or.inr ⟨b2_n0 c6, by rw [b2_n0 c17, b2_n0 c24]; rfl, by first | (rw [b2_0.mp c45]; rfl) | (rw [b2_n0 c45]; rfl), hM⟩)⟩)
    refine q_iconst F dX5_matches_48 hc_1 ?_
    refine q_goto F 53 dX5_matches_49 rfl ?_
    exact (q_reti F hr rfl dX5_matches_53 (Nat.le_of_ble_eq_true rfl) (Nat.le_of_ble_eq_true rfl) ⟨_, rfl, hm, by unfold okNP; first | exact Or.inl ⟨b2_0.mp c6, hM⟩ | exact Or.inr (Or.inl ⟨b2_n0 c6, by first | (rw [b2_0.mp c17]; rfl) | (rw [b2_0.mp c24, Bool.and_false]), hM⟩) | exact Or.inr (Or.inr ⟨b2_n0 c6, by rw [b2_n0 c17, b2_n0 c24]; rfl, by first | (rw [b2_0.mp c45]; rfl) | (rw [b2_n0 c45]; rfl), hM⟩)⟩)
  refine q_iconst F dX5_matches_9 hc_1 ?_
  refine q_goto F 32 dX5_matches_10 rfl ?_
  refine q_callV_gi F (c_X5_holds hM) gX5_matches_X5_holds rfl hd_X5_holds ⟨Nat.le_of_ble_eq_true rfl, Nat.le_of_ble_eq_true rfl⟩ hM.1.1 rfl rfl rfl (Nat.le_of_ble_eq_true rfl) dX5_matches_32 ⟨Nat.le_of_ble_eq_true rfl, Nat.le_of_ble_eq_true rfl⟩ (fun r32 S32 hp32 => ?_)
  obtain ⟨rfl, hM, hm32⟩ := hp32
  have hm := hm.trans hm32
  refine q_cz ?_
  refine q_if_eq F 52 dX5_matches_35 rfl (fun c35 => ?_) (fun c35 => ?_)
  · refine q_iconst F dX5_matches_52 hc_0 ?_
    exact (q_reti F hr rfl dX5_matches_53 (Nat.le_of_ble_eq_true rfl) (Nat.le_of_ble_eq_true rfl) ⟨_, rfl, hm, by unfold okNP; first | exact Or.inl ⟨b2_0.mp c6, hM⟩ | exact Or.inr (Or.inl ⟨b2_n0 c6, by first | (rw [b2_0.mp c17]; rfl) | (rw [b2_0.mp c24, Bool.and_false]), hM⟩) | exact Or.inr (Or.inr ⟨b2_n0 c6, by rw [b2_n0 c17, b2_n0 c24]; rfl, by first | (rw [b2_0.mp c45]; rfl) | (rw [b2_n0 c45]; rfl), hM⟩)⟩)
  exact absurd c35 (by decide)

theorem fd_k {f : Nat → Bool} {n k : Nat} (hk : k < n) (h : f k = false) : fd f n (n - k) = fd f n (n - (k + 1)) := by
  rw [show n - k = (n - (k + 1)) + 1 by omega, fd, show n - (n - (k + 1) + 1) = k by omega, h]; rfl
theorem fd_k1 {f : Nat → Bool} {n k : Nat} (hk : k < n) (h : f k = true) : fd f n (n - k) = nI k := by
  rw [show n - k = (n - (k + 1)) + 1 by omega, fd, show n - (n - (k + 1) + 1) = k by omega, h]; rfl

set_option maxHeartbeats 4000000 in
set_option maxRecDepth 100000 in
theorem c_X5_find {l : Launch} {g : hG} {X : va_W} {S : hS} {md : Nat} {ar : Nat → Nat} {sc : Nat → Int32} {M : Nat → Nat → Int32} (hM : mS S md ar sc M) {n : Nat} (hn : sc 4 = nI n) (hn40 : n ≤ 40) (hsz : ∀ i, i < n → ∃ k, k ≤ 4 ∧ M 12 i = nI k) {name port : Int32} : hMet l yX5_find wsX5_find rm_X5_find g X S [.ref md, .int name, .int port] (mP1 S md ar (okNP name port) sc M (fd (fun i => mt M i name port) n n) (va_up sc 0 0) M) := by
  refine h_start (maxL := 5) (ret := (some .int)) (by decide) rfl (Nat.le_of_ble_eq_true rfl) ?_
  intro p e s m args below meth c F hr hinit
  have hm := mdF.rf S
  refine q_aload_n F 0 dX5_find_0 rfl rfl ?_
  refine q_iload_n F 1 dX5_find_1 rfl rfl ?_
  refine q_callS_i F (c_X5_isName) gX5_find_X5_isName rfl hd_X5_isName ⟨Nat.le_of_ble_eq_true rfl, Nat.le_of_ble_eq_true rfl⟩ rfl rfl (Nat.le_of_ble_eq_true rfl) dX5_find_2 ⟨Nat.le_of_ble_eq_true rfl, Nat.le_of_ble_eq_true rfl⟩ ?_
  refine q_if_eq F 19 dX5_find_5 rfl (fun c5 => ?_) (fun c5 => ?_)
  · refine q_iconst F dX5_find_19 hc_1 ?_
    refine q_callV_gi F (c_X5_holds hM) gX5_find_X5_holds rfl hd_X5_holds ⟨Nat.le_of_ble_eq_true rfl, Nat.le_of_ble_eq_true rfl⟩ hM.1.1 rfl rfl rfl (Nat.le_of_ble_eq_true rfl) dX5_find_20 ⟨Nat.le_of_ble_eq_true rfl, Nat.le_of_ble_eq_true rfl⟩ (fun r20 S20 hp20 => ?_)
    obtain ⟨rfl, hM, hm20⟩ := hp20
    have hm := hm.trans hm20
    refine q_cz ?_
    refine q_if_ne F 28 dX5_find_23 rfl (fun c23 => ?_) (fun c23 => ?_)
    · exact absurd c23 (by decide)
    refine q_iconst F dX5_find_26 hc_0 ?_
    exact (q_reti F hr rfl dX5_find_27 (Nat.le_of_ble_eq_true rfl) (Nat.le_of_ble_eq_true rfl) ⟨_, rfl, hm, Or.inl ⟨by unfold okNP; first | (rw [b2_0.mp c5]; rfl) | (rw [b2_0.mp c12, Bool.and_false]), hM⟩⟩)
  refine q_iload_n F 2 dX5_find_8 rfl rfl ?_
  refine q_callS_i F (c_X5_isPort) gX5_find_X5_isPort rfl hd_X5_isPort ⟨Nat.le_of_ble_eq_true rfl, Nat.le_of_ble_eq_true rfl⟩ rfl rfl (Nat.le_of_ble_eq_true rfl) dX5_find_9 ⟨Nat.le_of_ble_eq_true rfl, Nat.le_of_ble_eq_true rfl⟩ ?_
  refine q_if_eq F 19 dX5_find_12 rfl (fun c12 => ?_) (fun c12 => ?_)
  · refine q_iconst F dX5_find_19 hc_1 ?_
    refine q_callV_gi F (c_X5_holds hM) gX5_find_X5_holds rfl hd_X5_holds ⟨Nat.le_of_ble_eq_true rfl, Nat.le_of_ble_eq_true rfl⟩ hM.1.1 rfl rfl rfl (Nat.le_of_ble_eq_true rfl) dX5_find_20 ⟨Nat.le_of_ble_eq_true rfl, Nat.le_of_ble_eq_true rfl⟩ (fun r20 S20 hp20 => ?_)
    obtain ⟨rfl, hM, hm20⟩ := hp20
    have hm := hm.trans hm20
    refine q_cz ?_
    refine q_if_ne F 28 dX5_find_23 rfl (fun c23 => ?_) (fun c23 => ?_)
    · exact absurd c23 (by decide)
    refine q_iconst F dX5_find_26 hc_0 ?_
    exact (q_reti F hr rfl dX5_find_27 (Nat.le_of_ble_eq_true rfl) (Nat.le_of_ble_eq_true rfl) ⟨_, rfl, hm, Or.inl ⟨by unfold okNP; first | (rw [b2_0.mp c5]; rfl) | (rw [b2_0.mp c12, Bool.and_false]), hM⟩⟩)
  refine q_iconst F dX5_find_15 hc_0 ?_
  refine q_goto F 20 dX5_find_16 rfl ?_
  refine q_callV_gi F (c_X5_holds hM) gX5_find_X5_holds rfl hd_X5_holds ⟨Nat.le_of_ble_eq_true rfl, Nat.le_of_ble_eq_true rfl⟩ hM.1.1 rfl rfl rfl (Nat.le_of_ble_eq_true rfl) dX5_find_20 ⟨Nat.le_of_ble_eq_true rfl, Nat.le_of_ble_eq_true rfl⟩ (fun r20 S20 hp20 => ?_)
  obtain ⟨rfl, hM, hm20⟩ := hp20
  have hm := hm.trans hm20
  refine q_cz ?_
  refine q_if_ne F 28 dX5_find_23 rfl (fun c23 => ?_) (fun c23 => ?_)
  · have hAA : okNP name port = true := by unfold okNP; rw [b2_n0 c5, b2_n0 c12]; rfl
    refine q_iconst F dX5_find_28 hc_m1 ?_
    refine q_istore_n F 3 dX5_find_29 rfl (by decide) rfl ?_
    refine q_aload_n F 0 dX5_find_30 rfl rfl ?_
    refine qg_X5_91 F hM.1.1 dX5_find_31 ?_
    refine q_mg 4 (nI n) rfl hM hn ?_
    refine q_iconst F dX5_find_34 hc_1 ?_
    refine q_isub F dX5_find_35 ?_
    refine q_top (v' := .int (dN n)) ?_ (congrArg Value.int (dN_pred n))
    refine q_istore F dX5_find_36 (by decide) rfl ?_
    have L : ∀ (k : Nat), k ≤ n → V p l e rm_X5_find s m args below meth c 5 g X (MQ below (hQ g X (mP1 S md ar (okNP name port) sc M (fd (fun i => mt M i name port) n n) (va_up sc 0 0) M)) args s rm_X5_find.cells rm_X5_find.slots (hA g)) S20 0 0 [(0, .ref md), (1, .int name), (2, .int port), (3, .int (fd (fun i => mt M i name port) n (n - k))), (4, .int (dN k))] 38 [] := by
      intro k
      induction k with
      | zero =>
        intro hk
        refine q_iload F dX5_find_38 rfl ?_
        refine q_if_lt F 67 dX5_find_40 rfl (fun c40 => ?_) (fun c40 => ?_)
        · refine q_iload_n F 3 dX5_find_67 rfl rfl ?_
          exact (q_reti F hr rfl dX5_find_68 (Nat.le_of_ble_eq_true rfl) (Nat.le_of_ble_eq_true rfl) ⟨_, rfl, hm, Or.inr ⟨hAA, rfl, hM⟩⟩)
        exact absurd c40 (by decide)
      | succ k ih =>
        intro hk
        obtain ⟨kk, hk4, h12⟩ := hsz k (by omega)
        refine q_iload F dX5_find_38 rfl ?_
        refine q_if_lt F 67 dX5_find_40 rfl (fun c40 => ?_) (fun c40 => ?_)
        · exact absurd c40 (dN_s (by omega))
        refine q_aload_n F 0 dX5_find_43 rfl rfl ?_
        refine q_iload F dX5_find_44 rfl ?_
        refine q_iload_n F 1 dX5_find_46 rfl rfl ?_
        refine q_iload_n F 2 dX5_find_47 rfl rfl ?_
        refine q_callV_i F (c_X5_isFor (M := M) (i := k) hM (show k < 40 by omega) h12 hk4) gX5_find_X5_isFor rfl hd_X5_isFor ⟨Nat.le_of_ble_eq_true rfl, Nat.le_of_ble_eq_true rfl⟩ hM.1.1 rfl rfl rfl (Nat.le_of_ble_eq_true rfl) dX5_find_48 ⟨Nat.le_of_ble_eq_true rfl, Nat.le_of_ble_eq_true rfl⟩ ?_
        refine q_if_eq F 59 dX5_find_51 rfl (fun c51 => ?_) (fun c51 => ?_)
        · refine q_iload_n F 3 dX5_find_59 rfl rfl ?_
          refine q_istore_n F 3 dX5_find_60 rfl (by decide) rfl ?_
          refine q_iinc F (dN k) dX5_find_61 rfl (dN_dec k) (by decide) rfl ?_
          refine q_goto F 38 dX5_find_64 rfl ?_
          exact q_to (ih (by omega)) ⟨rfl, rfl, rfl, congrArg (fun z => some (Value.int z)) (by first | exact (fd_k (f := fun i => mt M i name port) (by omega) (b2_0.mp c51)) | exact (fd_k1 (f := fun i => mt M i name port) (by omega) (b2_n0 c51)) | exact (fd_k (f := fun i => mt M i name port) (by omega) (b2_0.mp c51)).symm | exact (fd_k1 (f := fun i => mt M i name port) (by omega) (b2_n0 c51)).symm), rfl, trivial⟩
        refine q_iload F dX5_find_54 rfl ?_
        refine q_goto F 60 dX5_find_56 rfl ?_
        refine q_istore_n F 3 dX5_find_60 rfl (by decide) rfl ?_
        refine q_iinc F (dN k) dX5_find_61 rfl (dN_dec k) (by decide) rfl ?_
        refine q_goto F 38 dX5_find_64 rfl ?_
        exact q_to (ih (by omega)) ⟨rfl, rfl, rfl, congrArg (fun z => some (Value.int z)) (by first | exact (fd_k (f := fun i => mt M i name port) (by omega) (b2_0.mp c51)) | exact (fd_k1 (f := fun i => mt M i name port) (by omega) (b2_n0 c51)) | exact (fd_k (f := fun i => mt M i name port) (by omega) (b2_0.mp c51)).symm | exact (fd_k1 (f := fun i => mt M i name port) (by omega) (b2_n0 c51)).symm), rfl, trivial⟩
    exact q_to (L n (Nat.le_refl _)) ⟨rfl, rfl, rfl, congrArg (fun z => some (Value.int z)) (by rw [Nat.sub_self]; rfl), rfl, trivial⟩
  exact absurd c23 (by decide)

set_option maxHeartbeats 4000000 in
set_option maxRecDepth 100000 in
theorem c_X5_linesOf {l : Launch} {g : hG} {X : va_W} {S : hS} {md : Nat} {ar : Nat → Nat} {sc : Nat → Int32} {M : Nat → Nat → Int32} (hM : mS S md ar sc M) {n : Nat} (hn : sc 4 = nI n) (hn40 : n ≤ 40) {key : Int32} : hMet l yX5_linesOf wsX5_linesOf rm_X5_linesOf g X S [.ref md, .int key] (mP1L S md ar (okK key) sc M (lo (fun i => decide (M 5 i = key)) n) (va_up sc 0 0) M) := by
  refine h_start (maxL := 5) (ret := (some .long)) (by decide) rfl (Nat.le_of_ble_eq_true rfl) ?_
  intro p e s m args below meth c F hr hinit
  have hm := mdF.rf S
  refine q_aload_n F 0 dX5_linesOf_0 rfl rfl ?_
  refine q_iload_n F 1 dX5_linesOf_1 rfl rfl ?_
  refine q_callS_i F (c_X5_isKey) gX5_linesOf_X5_isKey rfl hd_X5_isKey ⟨Nat.le_of_ble_eq_true rfl, Nat.le_of_ble_eq_true rfl⟩ rfl rfl (Nat.le_of_ble_eq_true rfl) dX5_linesOf_2 ⟨Nat.le_of_ble_eq_true rfl, Nat.le_of_ble_eq_true rfl⟩ ?_
  refine q_if_eq F 12 dX5_linesOf_5 rfl (fun c5 => ?_) (fun c5 => ?_)
  · refine q_iconst F dX5_linesOf_12 hc_1 ?_
    refine q_callV_gi F (c_X5_holds hM) gX5_linesOf_X5_holds rfl hd_X5_holds ⟨Nat.le_of_ble_eq_true rfl, Nat.le_of_ble_eq_true rfl⟩ hM.1.1 rfl rfl rfl (Nat.le_of_ble_eq_true rfl) dX5_linesOf_13 ⟨Nat.le_of_ble_eq_true rfl, Nat.le_of_ble_eq_true rfl⟩ (fun r13 S13 hp13 => ?_)
    obtain ⟨rfl, hM, hm13⟩ := hp13
    have hm := hm.trans hm13
    refine q_cz ?_
    refine q_if_ne F 21 dX5_linesOf_16 rfl (fun c16 => ?_) (fun c16 => ?_)
    · exact absurd c16 (by decide)
    refine q_lconst (v := 0) F dX5_linesOf_19 (by decide) ?_
    exact (q_retl F hr dX5_linesOf_20 (Nat.le_of_ble_eq_true rfl) (Nat.le_of_ble_eq_true rfl) ⟨_, rfl, hm, Or.inl ⟨b2_0.mp c5, hM⟩⟩)
  refine q_iconst F dX5_linesOf_8 hc_0 ?_
  refine q_goto F 13 dX5_linesOf_9 rfl ?_
  refine q_callV_gi F (c_X5_holds hM) gX5_linesOf_X5_holds rfl hd_X5_holds ⟨Nat.le_of_ble_eq_true rfl, Nat.le_of_ble_eq_true rfl⟩ hM.1.1 rfl rfl rfl (Nat.le_of_ble_eq_true rfl) dX5_linesOf_13 ⟨Nat.le_of_ble_eq_true rfl, Nat.le_of_ble_eq_true rfl⟩ (fun r13 S13 hp13 => ?_)
  obtain ⟨rfl, hM, hm13⟩ := hp13
  have hm := hm.trans hm13
  refine q_cz ?_
  refine q_if_ne F 21 dX5_linesOf_16 rfl (fun c16 => ?_) (fun c16 => ?_)
  · have hAA := b2_n0 c5
    refine q_lconst (v := 0) F dX5_linesOf_21 (by decide) ?_
    refine q_lstore_n F 2 dX5_linesOf_22 rfl (by decide) rfl ?_
    refine q_iconst F dX5_linesOf_23 hc_0 ?_
    refine q_istore F dX5_linesOf_24 (by decide) rfl ?_
    have L : ∀ (r j : Nat), j + r = n → V p l e rm_X5_linesOf s m args below meth c 5 g X (MQ below (hQ g X (mP1L S md ar (okK key) sc M (lo (fun i => decide (M 5 i = key)) n) (va_up sc 0 0) M)) args s rm_X5_linesOf.cells rm_X5_linesOf.slots (hA g)) S13 0 0 [(0, .ref md), (1, .int key), (2, .long (lo (fun i => decide (M 5 i = key)) j)), (4, .int (nI j))] 26 [] := by
      intro r
      induction r with
      | zero =>
        intro j hjr
        have hjk : j = n := by omega
        refine q_iload F dX5_linesOf_26 rfl ?_
        refine q_aload_n F 0 dX5_linesOf_28 rfl rfl ?_
        refine qg_X5_91 F hM.1.1 dX5_linesOf_29 ?_
        refine q_mg 4 (nI n) rfl hM hn ?_
        refine q_icmp_ge F 63 dX5_linesOf_32 rfl (fun c32 => ?_) (fun c32 => ?_)
        · refine q_lload_n F 2 dX5_linesOf_63 rfl rfl ?_
          exact (q_retl F hr dX5_linesOf_64 (Nat.le_of_ble_eq_true rfl) (Nat.le_of_ble_eq_true rfl) ⟨_, rfl, hm, Or.inr ⟨hAA, by rw [hjk], hM⟩⟩)
        exact absurd c32 (gT rfl rfl (show n ≤ j by omega) (by omega))
      | succ r ih =>
        intro j hjr
        have hj : j < n := by omega
        refine q_iload F dX5_linesOf_26 rfl ?_
        refine q_aload_n F 0 dX5_linesOf_28 rfl rfl ?_
        refine qg_X5_91 F hM.1.1 dX5_linesOf_29 ?_
        refine q_mg 4 (nI n) rfl hM hn ?_
        refine q_icmp_ge F 63 dX5_linesOf_32 rfl (fun c32 => ?_) (fun c32 => ?_)
        · exact absurd c32 (gF rfl rfl hj (by omega))
        refine q_lload_n F 2 dX5_linesOf_35 rfl rfl ?_
        refine q_aload_n F 0 dX5_linesOf_36 rfl rfl ?_
        refine qg_X5_13 F (hM.1.2.1 5 rfl).1 hM.1.1 dX5_linesOf_37 ?_
        refine q_iload F dX5_linesOf_40 rfl ?_
        refine q_iald F (hM.1.2.1 5 rfl).2.1 (hM.1.2.1 5 rfl).2.2 rfl (show j < 40 by omega) (by decide) dX5_linesOf_42 ?_
        refine q_ma 5 (_) rfl hM rfl ?_
        refine q_iload_n F 1 dX5_linesOf_43 rfl rfl ?_
        refine q_icmp_ne F 54 dX5_linesOf_44 rfl (fun c44 => ?_) (fun c44 => ?_)
        · refine q_lconst (v := 0) F dX5_linesOf_54 (by decide) ?_
          refine q_lor F dX5_linesOf_55 ?_
          refine q_lstore_n F 2 dX5_linesOf_56 rfl (by decide) rfl ?_
          refine q_iinc F (nI (j + 1)) dX5_linesOf_57 rfl (nI_inc j) (by decide) rfl ?_
          refine q_goto F 26 dX5_linesOf_60 rfl ?_
          exact q_to (ih (j + 1) (by omega)) ⟨rfl, rfl, congrArg (fun z => some (Value.long z)) (by rw [lo]; first | (rw [decide_eq_false c44]; rfl) | (rw [decide_eq_true c44]; rfl)), rfl, trivial⟩
        refine q_lconst (v := 1) F dX5_linesOf_47 (by decide) ?_
        refine q_iload F dX5_linesOf_48 rfl ?_
        refine q_lshl F dX5_linesOf_50 ?_
        refine q_goto F 55 dX5_linesOf_51 rfl ?_
        refine q_lor F dX5_linesOf_55 ?_
        refine q_lstore_n F 2 dX5_linesOf_56 rfl (by decide) rfl ?_
        refine q_iinc F (nI (j + 1)) dX5_linesOf_57 rfl (nI_inc j) (by decide) rfl ?_
        refine q_goto F 26 dX5_linesOf_60 rfl ?_
        exact q_to (ih (j + 1) (by omega)) ⟨rfl, rfl, congrArg (fun z => some (Value.long z)) (by rw [lo]; first | (rw [decide_eq_false c44]; rfl) | (rw [decide_eq_true c44]; rfl)), rfl, trivial⟩
    exact q_to (L n 0 (by omega)) ⟨rfl, rfl, rfl, rfl, trivial⟩
  exact absurd c16 (by decide)

