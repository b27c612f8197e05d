theorem tlE_c0 {e d : Int32} (h : e = -1) : tlE e d = d := by rw [h]; exact tlE_m0
theorem tl_fin {S : hS} {md : Nat} {ar : Nat → Nat} {sc : Nat → Int32} {M : Nat → Nat → Int32} {n a j : Nat} {v w : Int32} (h : w = v) (hM : mS S md ar (scN (scN sc a) n) (u2 M 8 j v)) : mS S md ar (scN sc n) (u2 M 8 j w) := by
  rw [h]
  rw [scN_scN] at hM
  exact hM

set_option maxHeartbeats 4000000 in
set_option maxRecDepth 100000 in
theorem c_X5_turn {l : Launch} {g : hG} {X : va_W} {S : hS} {md : Nat} {ar : Nat → Nat} {sc : Nat → Int32} {M : Nat → Nat → Int32} (hM : mS S md ar sc M) {n : Nat} (hn : sc 4 = nI n) (hn40 : n ≤ 40) (hsz : ∀ i, i < n → ∃ k, k ≤ 4 ∧ M 12 i = nI k) {ns : Nat} (hs : sc 25 = nI ns) (hs20 : ns ≤ 20) (hB16 : ∀ x, isB (M 16 x)) {name port old other days : Int32} : hMet l yX5_turn wsX5_turn rm_X5_turn g X S [.ref md, .int name, .int port, .int old, .int other, .int days] (mP2 S md ar (okNP name port && okK old && okK other && inR days 0 1000 && !decide (old = other)) (decide (jg (sc 1) M n ns name port old none = 2) && !decide (jg (sc 1) M n ns name port other none = 0)) sc M (nI ((tl (sc 1) name port old other days (M, n) n).2 - n)) (scN (va_up sc 0 0) (tl (sc 1) name port old other days (M, n) n).2) (tl (sc 1) name port old other days (M, n) n).1) := by
  refine h_start (maxL := 10) (ret := (some .int)) (by decide) rfl (Nat.le_of_ble_eq_true rfl) ?_
  intro p e s m args below meth c F hr hinit
  have hm := mdF.rf S
  refine q_iload_n F 1 dX5_turn_0 rfl rfl ?_
  refine q_iload_n F 2 dX5_turn_1 rfl rfl ?_
  refine q_iload_n F 3 dX5_turn_2 rfl rfl ?_
  refine q_callS_i F (c_X5_areAsked) gX5_turn_X5_areAsked rfl hd_X5_areAsked ⟨Nat.le_of_ble_eq_true rfl, Nat.le_of_ble_eq_true rfl⟩ rfl rfl (Nat.le_of_ble_eq_true rfl) dX5_turn_3 ⟨Nat.le_of_ble_eq_true rfl, Nat.le_of_ble_eq_true rfl⟩ ?_
  refine q_if_eq F 39 dX5_turn_6 rfl (fun c6 => ?_) (fun c6 => ?_)
  · refine q_iconst F dX5_turn_39 hc_0 ?_
    refine q_istore F dX5_turn_40 (by decide) rfl ?_
    refine q_iload F dX5_turn_42 rfl ?_
    refine q_if_eq F 75 dX5_turn_44 rfl (fun c44 => ?_) (fun c44 => ?_)
    · refine q_iconst F dX5_turn_75 hc_0 ?_
      refine q_istore F dX5_turn_76 (by decide) rfl ?_
      refine q_aload_n F 0 dX5_turn_78 rfl rfl ?_
      refine q_iload F dX5_turn_79 rfl ?_
      refine q_if_ne F 88 dX5_turn_81 rfl (fun c81 => ?_) (fun c81 => ?_)
      · exact absurd c81 (by decide)
      refine q_iconst F dX5_turn_84 hc_1 ?_
      refine q_goto F 98 dX5_turn_85 rfl ?_
      refine q_callV_gi F (c_X5_holds hM) gX5_turn_X5_holds rfl hd_X5_holds ⟨Nat.le_of_ble_eq_true rfl, Nat.le_of_ble_eq_true rfl⟩ hM.1.1 rfl rfl rfl (Nat.le_of_ble_eq_true rfl) dX5_turn_98 ⟨Nat.le_of_ble_eq_true rfl, Nat.le_of_ble_eq_true rfl⟩ (fun r98 S98 hp98 => ?_)
      obtain ⟨rfl, hM, hm98⟩ := hp98
      have hm := hm.trans hm98
      refine q_cz ?_
      refine q_if_ne F 106 dX5_turn_101 rfl (fun c101 => ?_) (fun c101 => ?_)
      · exact absurd c101 (by decide)
      refine q_iconst F dX5_turn_104 hc_0 ?_
      exact (q_reti F hr rfl dX5_turn_105 (Nat.le_of_ble_eq_true rfl) (Nat.le_of_ble_eq_true rfl) ⟨_, rfl, hm, by first | exact Or.inl ⟨(by first | (rw [b2_0.mp c6]; rfl) | (rw [b2_0.mp c14, Bool.and_false]; rfl) | (rw [b2_0.mp c26, Bool.and_false]; rfl) | (rw [decide_eq_true c32, Bool.not_true, Bool.and_false])), hM⟩ | exact Or.inr (Or.inl ⟨(by rw [b2_n0 c6, b2_n0 c14, b2_n0 c26, decide_eq_false c32]; rfl), (by first | (rw [decide_eq_false c56]; rfl) | (rw [decide_eq_true c68, Bool.not_true, Bool.and_false])), hM⟩)⟩)
    exact absurd c44 (by decide)
  refine q_iload F dX5_turn_9 rfl ?_
  refine q_callS_i F (c_X5_isKey) gX5_turn_X5_isKey rfl hd_X5_isKey ⟨Nat.le_of_ble_eq_true rfl, Nat.le_of_ble_eq_true rfl⟩ rfl rfl (Nat.le_of_ble_eq_true rfl) dX5_turn_11 ⟨Nat.le_of_ble_eq_true rfl, Nat.le_of_ble_eq_true rfl⟩ ?_
  refine q_if_eq F 39 dX5_turn_14 rfl (fun c14 => ?_) (fun c14 => ?_)
  · refine q_iconst F dX5_turn_39 hc_0 ?_
    refine q_istore F dX5_turn_40 (by decide) rfl ?_
    refine q_iload F dX5_turn_42 rfl ?_
    refine q_if_eq F 75 dX5_turn_44 rfl (fun c44 => ?_) (fun c44 => ?_)
    · refine q_iconst F dX5_turn_75 hc_0 ?_
      refine q_istore F dX5_turn_76 (by decide) rfl ?_
      refine q_aload_n F 0 dX5_turn_78 rfl rfl ?_
      refine q_iload F dX5_turn_79 rfl ?_
      refine q_if_ne F 88 dX5_turn_81 rfl (fun c81 => ?_) (fun c81 => ?_)
      · exact absurd c81 (by decide)
      refine q_iconst F dX5_turn_84 hc_1 ?_
      refine q_goto F 98 dX5_turn_85 rfl ?_
      refine q_callV_gi F (c_X5_holds hM) gX5_turn_X5_holds rfl hd_X5_holds ⟨Nat.le_of_ble_eq_true rfl, Nat.le_of_ble_eq_true rfl⟩ hM.1.1 rfl rfl rfl (Nat.le_of_ble_eq_true rfl) dX5_turn_98 ⟨Nat.le_of_ble_eq_true rfl, Nat.le_of_ble_eq_true rfl⟩ (fun r98 S98 hp98 => ?_)
      obtain ⟨rfl, hM, hm98⟩ := hp98
      have hm := hm.trans hm98
      refine q_cz ?_
      refine q_if_ne F 106 dX5_turn_101 rfl (fun c101 => ?_) (fun c101 => ?_)
      · exact absurd c101 (by decide)
      refine q_iconst F dX5_turn_104 hc_0 ?_
      exact (q_reti F hr rfl dX5_turn_105 (Nat.le_of_ble_eq_true rfl) (Nat.le_of_ble_eq_true rfl) ⟨_, rfl, hm, by first | exact Or.inl ⟨(by first | (rw [b2_0.mp c6]; rfl) | (rw [b2_0.mp c14, Bool.and_false]; rfl) | (rw [b2_0.mp c26, Bool.and_false]; rfl) | (rw [decide_eq_true c32, Bool.not_true, Bool.and_false])), hM⟩ | exact Or.inr (Or.inl ⟨(by rw [b2_n0 c6, b2_n0 c14, b2_n0 c26, decide_eq_false c32]; rfl), (by first | (rw [decide_eq_false c56]; rfl) | (rw [decide_eq_true c68, Bool.not_true, Bool.and_false])), hM⟩)⟩)
    exact absurd c44 (by decide)
  refine q_iload F dX5_turn_17 rfl ?_
  refine q_iconst F dX5_turn_19 hc_0 ?_
  refine q_sipush (v := 1000) F dX5_turn_20 (by decide) ?_
  refine q_callS_i F (c_X5_isIn) gX5_turn_X5_isIn rfl hd_X5_isIn ⟨Nat.le_of_ble_eq_true rfl, Nat.le_of_ble_eq_true rfl⟩ rfl rfl (Nat.le_of_ble_eq_true rfl) dX5_turn_23 ⟨Nat.le_of_ble_eq_true rfl, Nat.le_of_ble_eq_true rfl⟩ ?_
  refine q_if_eq F 39 dX5_turn_26 rfl (fun c26 => ?_) (fun c26 => ?_)
  · refine q_iconst F dX5_turn_39 hc_0 ?_
    refine q_istore F dX5_turn_40 (by decide) rfl ?_
    refine q_iload F dX5_turn_42 rfl ?_
    refine q_if_eq F 75 dX5_turn_44 rfl (fun c44 => ?_) (fun c44 => ?_)
    · refine q_iconst F dX5_turn_75 hc_0 ?_
      refine q_istore F dX5_turn_76 (by decide) rfl ?_
      refine q_aload_n F 0 dX5_turn_78 rfl rfl ?_
      refine q_iload F dX5_turn_79 rfl ?_
      refine q_if_ne F 88 dX5_turn_81 rfl (fun c81 => ?_) (fun c81 => ?_)
      · exact absurd c81 (by decide)
      refine q_iconst F dX5_turn_84 hc_1 ?_
      refine q_goto F 98 dX5_turn_85 rfl ?_
      refine q_callV_gi F (c_X5_holds hM) gX5_turn_X5_holds rfl hd_X5_holds ⟨Nat.le_of_ble_eq_true rfl, Nat.le_of_ble_eq_true rfl⟩ hM.1.1 rfl rfl rfl (Nat.le_of_ble_eq_true rfl) dX5_turn_98 ⟨Nat.le_of_ble_eq_true rfl, Nat.le_of_ble_eq_true rfl⟩ (fun r98 S98 hp98 => ?_)
      obtain ⟨rfl, hM, hm98⟩ := hp98
      have hm := hm.trans hm98
      refine q_cz ?_
      refine q_if_ne F 106 dX5_turn_101 rfl (fun c101 => ?_) (fun c101 => ?_)
      · exact absurd c101 (by decide)
      refine q_iconst F dX5_turn_104 hc_0 ?_
      exact (q_reti F hr rfl dX5_turn_105 (Nat.le_of_ble_eq_true rfl) (Nat.le_of_ble_eq_true rfl) ⟨_, rfl, hm, by first | exact Or.inl ⟨(by first | (rw [b2_0.mp c6]; rfl) | (rw [b2_0.mp c14, Bool.and_false]; rfl) | (rw [b2_0.mp c26, Bool.and_false]; rfl) | (rw [decide_eq_true c32, Bool.not_true, Bool.and_false])), hM⟩ | exact Or.inr (Or.inl ⟨(by rw [b2_n0 c6, b2_n0 c14, b2_n0 c26, decide_eq_false c32]; rfl), (by first | (rw [decide_eq_false c56]; rfl) | (rw [decide_eq_true c68, Bool.not_true, Bool.and_false])), hM⟩)⟩)
    exact absurd c44 (by decide)
  refine q_iload_n F 3 dX5_turn_29 rfl rfl ?_
  refine q_iload F dX5_turn_30 rfl ?_
  refine q_icmp_eq F 39 dX5_turn_32 rfl (fun c32 => ?_) (fun c32 => ?_)
  · refine q_iconst F dX5_turn_39 hc_0 ?_
    refine q_istore F dX5_turn_40 (by decide) rfl ?_
    refine q_iload F dX5_turn_42 rfl ?_
    refine q_if_eq F 75 dX5_turn_44 rfl (fun c44 => ?_) (fun c44 => ?_)
    · refine q_iconst F dX5_turn_75 hc_0 ?_
      refine q_istore F dX5_turn_76 (by decide) rfl ?_
      refine q_aload_n F 0 dX5_turn_78 rfl rfl ?_
      refine q_iload F dX5_turn_79 rfl ?_
      refine q_if_ne F 88 dX5_turn_81 rfl (fun c81 => ?_) (fun c81 => ?_)
      · exact absurd c81 (by decide)
      refine q_iconst F dX5_turn_84 hc_1 ?_
      refine q_goto F 98 dX5_turn_85 rfl ?_
      refine q_callV_gi F (c_X5_holds hM) gX5_turn_X5_holds rfl hd_X5_holds ⟨Nat.le_of_ble_eq_true rfl, Nat.le_of_ble_eq_true rfl⟩ hM.1.1 rfl rfl rfl (Nat.le_of_ble_eq_true rfl) dX5_turn_98 ⟨Nat.le_of_ble_eq_true rfl, Nat.le_of_ble_eq_true rfl⟩ (fun r98 S98 hp98 => ?_)
      obtain ⟨rfl, hM, hm98⟩ := hp98
      have hm := hm.trans hm98
      refine q_cz ?_
      refine q_if_ne F 106 dX5_turn_101 rfl (fun c101 => ?_) (fun c101 => ?_)
      · exact absurd c101 (by decide)
      refine q_iconst F dX5_turn_104 hc_0 ?_
      exact (q_reti F hr rfl dX5_turn_105 (Nat.le_of_ble_eq_true rfl) (Nat.le_of_ble_eq_true rfl) ⟨_, rfl, hm, by first | exact Or.inl ⟨(by first | (rw [b2_0.mp c6]; rfl) | (rw [b2_0.mp c14, Bool.and_false]; rfl) | (rw [b2_0.mp c26, Bool.and_false]; rfl) | (rw [decide_eq_true c32, Bool.not_true, Bool.and_false])), hM⟩ | exact Or.inr (Or.inl ⟨(by rw [b2_n0 c6, b2_n0 c14, b2_n0 c26, decide_eq_false c32]; rfl), (by first | (rw [decide_eq_false c56]; rfl) | (rw [decide_eq_true c68, Bool.not_true, Bool.and_false])), hM⟩)⟩)
    exact absurd c44 (by decide)
  refine q_iconst F dX5_turn_35 hc_1 ?_
  refine q_goto F 40 dX5_turn_36 rfl ?_
  refine q_istore F dX5_turn_40 (by decide) rfl ?_
  refine q_iload F dX5_turn_42 rfl ?_
  refine q_if_eq F 75 dX5_turn_44 rfl (fun c44 => ?_) (fun c44 => ?_)
  · exact absurd c44 (by decide)
  refine q_aload_n F 0 dX5_turn_47 rfl rfl ?_
  refine q_iload_n F 1 dX5_turn_48 rfl rfl ?_
  refine q_iload_n F 2 dX5_turn_49 rfl rfl ?_
  refine q_iload_n F 3 dX5_turn_50 rfl rfl ?_
  refine q_iconst F dX5_turn_51 hc_m1 ?_
  refine q_callV_i F (c_X5_judgement_n hM hn hn40 hsz hs hs20) gX5_turn_X5_judgement rfl hd_X5_judgement ⟨Nat.le_of_ble_eq_true rfl, Nat.le_of_ble_eq_true rfl⟩ hM.1.1 rfl rfl rfl (Nat.le_of_ble_eq_true rfl) dX5_turn_52 ⟨Nat.le_of_ble_eq_true rfl, Nat.le_of_ble_eq_true rfl⟩ ?_
  refine q_iconst F dX5_turn_55 hc_2 ?_
  refine q_icmp_ne F 75 dX5_turn_56 rfl (fun c56 => ?_) (fun c56 => ?_)
  · refine q_iconst F dX5_turn_75 hc_0 ?_
    refine q_istore F dX5_turn_76 (by decide) rfl ?_
    refine q_aload_n F 0 dX5_turn_78 rfl rfl ?_
    refine q_iload F dX5_turn_79 rfl ?_
    refine q_if_ne F 88 dX5_turn_81 rfl (fun c81 => ?_) (fun c81 => ?_)
    · refine q_iload F dX5_turn_88 rfl ?_
      refine q_if_eq F 97 dX5_turn_90 rfl (fun c90 => ?_) (fun c90 => ?_)
      · refine q_iconst F dX5_turn_97 hc_2 ?_
        refine q_callV_gi F (c_X5_holds hM) gX5_turn_X5_holds rfl hd_X5_holds ⟨Nat.le_of_ble_eq_true rfl, Nat.le_of_ble_eq_true rfl⟩ hM.1.1 rfl rfl rfl (Nat.le_of_ble_eq_true rfl) dX5_turn_98 ⟨Nat.le_of_ble_eq_true rfl, Nat.le_of_ble_eq_true rfl⟩ (fun r98 S98 hp98 => ?_)
        obtain ⟨rfl, hM, hm98⟩ := hp98
        have hm := hm.trans hm98
        refine q_cz ?_
        refine q_if_ne F 106 dX5_turn_101 rfl (fun c101 => ?_) (fun c101 => ?_)
        · exact absurd c101 (by decide)
        refine q_iconst F dX5_turn_104 hc_0 ?_
        exact (q_reti F hr rfl dX5_turn_105 (Nat.le_of_ble_eq_true rfl) (Nat.le_of_ble_eq_true rfl) ⟨_, rfl, hm, by first | exact Or.inl ⟨(by first | (rw [b2_0.mp c6]; rfl) | (rw [b2_0.mp c14, Bool.and_false]; rfl) | (rw [b2_0.mp c26, Bool.and_false]; rfl) | (rw [decide_eq_true c32, Bool.not_true, Bool.and_false])), hM⟩ | exact Or.inr (Or.inl ⟨(by rw [b2_n0 c6, b2_n0 c14, b2_n0 c26, decide_eq_false c32]; rfl), (by first | (rw [decide_eq_false c56]; rfl) | (rw [decide_eq_true c68, Bool.not_true, Bool.and_false])), hM⟩)⟩)
      exact absurd c90 (by decide)
    exact absurd c81 (by decide)
  refine q_aload_n F 0 dX5_turn_59 rfl rfl ?_
  refine q_iload_n F 1 dX5_turn_60 rfl rfl ?_
  refine q_iload_n F 2 dX5_turn_61 rfl rfl ?_
  refine q_iload F dX5_turn_62 rfl ?_
  refine q_iconst F dX5_turn_64 hc_m1 ?_
  refine q_callV_i F (c_X5_judgement_n hM hn hn40 hsz hs hs20) gX5_turn_X5_judgement rfl hd_X5_judgement ⟨Nat.le_of_ble_eq_true rfl, Nat.le_of_ble_eq_true rfl⟩ hM.1.1 rfl rfl rfl (Nat.le_of_ble_eq_true rfl) dX5_turn_65 ⟨Nat.le_of_ble_eq_true rfl, Nat.le_of_ble_eq_true rfl⟩ ?_
  refine q_if_eq F 75 dX5_turn_68 rfl (fun c68 => ?_) (fun c68 => ?_)
  · refine q_iconst F dX5_turn_75 hc_0 ?_
    refine q_istore F dX5_turn_76 (by decide) rfl ?_
    refine q_aload_n F 0 dX5_turn_78 rfl rfl ?_
    refine q_iload F dX5_turn_79 rfl ?_
    refine q_if_ne F 88 dX5_turn_81 rfl (fun c81 => ?_) (fun c81 => ?_)
    · refine q_iload F dX5_turn_88 rfl ?_
      refine q_if_eq F 97 dX5_turn_90 rfl (fun c90 => ?_) (fun c90 => ?_)
      · refine q_iconst F dX5_turn_97 hc_2 ?_
        refine q_callV_gi F (c_X5_holds hM) gX5_turn_X5_holds rfl hd_X5_holds ⟨Nat.le_of_ble_eq_true rfl, Nat.le_of_ble_eq_true rfl⟩ hM.1.1 rfl rfl rfl (Nat.le_of_ble_eq_true rfl) dX5_turn_98 ⟨Nat.le_of_ble_eq_true rfl, Nat.le_of_ble_eq_true rfl⟩ (fun r98 S98 hp98 => ?_)
        obtain ⟨rfl, hM, hm98⟩ := hp98
        have hm := hm.trans hm98
        refine q_cz ?_
        refine q_if_ne F 106 dX5_turn_101 rfl (fun c101 => ?_) (fun c101 => ?_)
        · exact absurd c101 (by decide)
        refine q_iconst F dX5_turn_104 hc_0 ?_
        exact (q_reti F hr rfl dX5_turn_105 (Nat.le_of_ble_eq_true rfl) (Nat.le_of_ble_eq_true rfl) ⟨_, rfl, hm, by first | exact Or.inl ⟨(by first | (rw [b2_0.mp c6]; rfl) | (rw [b2_0.mp c14, Bool.and_false]; rfl) | (rw [b2_0.mp c26, Bool.and_false]; rfl) | (rw [decide_eq_true c32, Bool.not_true, Bool.and_false])), hM⟩ | exact Or.inr (Or.inl ⟨(by rw [b2_n0 c6, b2_n0 c14, b2_n0 c26, decide_eq_false c32]; rfl), (by first | (rw [decide_eq_false c56]; rfl) | (rw [decide_eq_true c68, Bool.not_true, Bool.and_false])), hM⟩)⟩)
      exact absurd c90 (by decide)
    exact absurd c81 (by decide)
  refine q_iconst F dX5_turn_71 hc_1 ?_
  refine q_goto F 76 dX5_turn_72 rfl ?_
  refine q_istore F dX5_turn_76 (by decide) rfl ?_
  refine q_aload_n F 0 dX5_turn_78 rfl rfl ?_
  refine q_iload F dX5_turn_79 rfl ?_
  refine q_if_ne F 88 dX5_turn_81 rfl (fun c81 => ?_) (fun c81 => ?_)
  · refine q_iload F dX5_turn_88 rfl ?_
    refine q_if_eq F 97 dX5_turn_90 rfl (fun c90 => ?_) (fun c90 => ?_)
    · exact absurd c90 (by decide)
    refine q_iconst F dX5_turn_93 hc_0 ?_
    refine q_goto F 98 dX5_turn_94 rfl ?_
    refine q_callV_gi F (c_X5_holds hM) gX5_turn_X5_holds rfl hd_X5_holds ⟨Nat.le_of_ble_eq_true rfl, Nat.le_of_ble_eq_true rfl⟩ hM.1.1 rfl rfl rfl (Nat.le_of_ble_eq_true rfl) dX5_turn_98 ⟨Nat.le_of_ble_eq_true rfl, Nat.le_of_ble_eq_true rfl⟩ (fun r98 S98 hp98 => ?_)
    obtain ⟨rfl, hM, hm98⟩ := hp98
    have hm := hm.trans hm98
    refine q_cz ?_
    refine q_if_ne F 106 dX5_turn_101 rfl (fun c101 => ?_) (fun c101 => ?_)
    · have hAA : (okNP name port && okK old && okK other && inR days 0 1000 && !decide (old = other)) = true := (by rw [b2_n0 c6, b2_n0 c14, b2_n0 c26, decide_eq_false c32]; rfl)
      have hBB : (decide (jg (sc 1) M n ns name port old none = 2) && !decide (jg (sc 1) M n ns name port other none = 0)) = true := (by rw [decide_eq_true c56, decide_eq_false c68]; rfl)
      refine q_aload_n F 0 dX5_turn_106 rfl rfl ?_
      refine qg_X5_91 F hM.1.1 dX5_turn_107 ?_
      refine q_mg 4 (nI n) rfl hM hn ?_
      refine q_istore F dX5_turn_110 (by decide) rfl ?_
      refine q_iconst F dX5_turn_112 hc_0 ?_
      refine q_istore F dX5_turn_113 (by decide) rfl ?_
      have L : ∀ (r j : Nat) (S1 : hS) (M1 : Nat → Nat → Int32) (n1 : Nat), j + r = n → n1 ≤ 40 → tl (sc 1) name port old other days (M, n) j = (M1, n1) → (∀ i, i < n → ∃ k, k ≤ 4 ∧ M1 12 i = nI k) → (∀ x, isB (M1 16 x)) → mS S1 md ar (scN (va_up sc 0 0) n1) M1 → mdF S S1 → V p l e rm_X5_turn s m args below meth c 10 g X (MQ below (hQ g X (mP2 S md ar (okNP name port && okK old && okK other && inR days 0 1000 && !decide (old = other)) (decide (jg (sc 1) M n ns name port old none = 2) && !decide (jg (sc 1) M n ns name port other none = 0)) sc M (nI ((tl (sc 1) name port old other days (M, n) n).2 - n)) (scN (va_up sc 0 0) (tl (sc 1) name port old other days (M, n) n).2) (tl (sc 1) name port old other days (M, n) n).1)) args s rm_X5_turn.cells rm_X5_turn.slots (hA g)) S1 0 0 [(0, .ref md), (1, .int name), (2, .int port), (3, .int old), (4, .int other), (5, .int days), (8, .int (nI n)), (9, .int (nI j))] 115 [] := by
        intro r
        induction r with
        | zero =>
          intro j S1 M1 n1 hjr hn1 hT hsz1 hB1 hM hm
          have hjn : j = n := by omega
          have hnn : n ≤ n1 := by have := tl_ge (day := sc 1) (name := name) (port := port) (old := old) (other := other) (days := days) (T := (M, n)) j; rw [hT] at this; exact this
          have hfin := hT
          rw [hjn] at hfin
          refine q_iload F dX5_turn_115 rfl ?_
          refine q_iload F dX5_turn_117 rfl ?_
          refine q_icmp_ge F 249 dX5_turn_119 rfl (fun c119 => ?_) (fun c119 => ?_)
          · refine q_aload_n F 0 dX5_turn_249 rfl rfl ?_
            refine qg_X5_91 F hM.1.1 dX5_turn_250 ?_
            refine q_mg 4 (nI n1) rfl hM rfl ?_
            refine q_iload F dX5_turn_253 rfl ?_
            refine q_isub F dX5_turn_255 ?_
            refine q_top (v' := .int (nI (n1 - n))) ?_ (congrArg Value.int (nI_sub hnn))
            exact (q_reti F hr rfl dX5_turn_256 (Nat.le_of_ble_eq_true rfl) (Nat.le_of_ble_eq_true rfl) ⟨_, rfl, hm, Or.inr (Or.inr ⟨hAA, hBB, by first | (rw [hfin]; exact ⟨rfl, hM⟩) | (have hq := tl_full (day := sc 1) (name := name) (port := port) (old := old) (other := other) (days := days) (T := (M, n)) (j := j) (by rw [hT]; exact n40 c128) (r + 1); rw [show j + (r + 1) = n by omega, hT] at hq; rw [hq]; exact ⟨rfl, hM⟩)⟩)⟩)
          exact absurd c119 (gT rfl rfl (show n ≤ j by omega) (by omega))
        | succ r ih =>
          intro j S1 M1 n1 hjr hn1 hT hsz1 hB1 hM hm
          have hj : j < n := by omega
          have hi40 : j < 40 := by omega
          have hnn : n ≤ n1 := by have := tl_ge (day := sc 1) (name := name) (port := port) (old := old) (other := other) (days := days) (T := (M, n)) j; rw [hT] at this; exact this
          obtain ⟨k, hk4, h12⟩ := hsz1 j hj
          refine q_iload F dX5_turn_115 rfl ?_
          refine q_iload F dX5_turn_117 rfl ?_
          refine q_icmp_ge F 249 dX5_turn_119 rfl (fun c119 => ?_) (fun c119 => ?_)
          · exact absurd c119 (gF rfl rfl hj (by omega))
          refine q_aload_n F 0 dX5_turn_122 rfl rfl ?_
          refine qg_X5_91 F hM.1.1 dX5_turn_123 ?_
          refine q_mg 4 (nI n1) rfl hM rfl ?_
          refine q_bipush (v := 40) F dX5_turn_126 (by decide) ?_
          refine q_icmp_ge F 249 dX5_turn_128 rfl (fun c128 => ?_) (fun c128 => ?_)
          · refine q_aload_n F 0 dX5_turn_249 rfl rfl ?_
            refine qg_X5_91 F hM.1.1 dX5_turn_250 ?_
            refine q_mg 4 (nI n1) rfl hM rfl ?_
            refine q_iload F dX5_turn_253 rfl ?_
            refine q_isub F dX5_turn_255 ?_
            refine q_top (v' := .int (nI (n1 - n))) ?_ (congrArg Value.int (nI_sub hnn))
            exact (q_reti F hr rfl dX5_turn_256 (Nat.le_of_ble_eq_true rfl) (Nat.le_of_ble_eq_true rfl) ⟨_, rfl, hm, Or.inr (Or.inr ⟨hAA, hBB, by first | (rw [hfin]; exact ⟨rfl, hM⟩) | (have hq := tl_full (day := sc 1) (name := name) (port := port) (old := old) (other := other) (days := days) (T := (M, n)) (j := j) (by rw [hT]; exact n40 c128) (r + 1); rw [show j + (r + 1) = n by omega, hT] at hq; rw [hq]; exact ⟨rfl, hM⟩)⟩)⟩)
          refine q_aload_n F 0 dX5_turn_131 rfl rfl ?_
          refine qg_X5_17 F (hM.1.2.1 6 rfl).1 hM.1.1 dX5_turn_132 ?_
          refine q_iload F dX5_turn_135 rfl ?_
          refine q_iald F (hM.1.2.1 6 rfl).2.1 (hM.1.2.1 6 rfl).2.2 rfl hi40 (by decide) dX5_turn_137 ?_
          refine q_ma 6 (_) rfl hM rfl ?_
          refine q_if_ne F 243 dX5_turn_138 rfl (fun c138 => ?_) (fun c138 => ?_)
          · refine q_iinc F (nI (j + 1)) dX5_turn_243 rfl (nI_inc j) (by decide) rfl ?_
            refine q_goto F 115 dX5_turn_246 rfl ?_
            first
              | exact q_to (ih (j + 1) _ _ _ (by omega) hn1 (tl_s0 hT (by rw [tlB_eq]; first | (rw [decide_eq_false c138]; rfl) | (rw [decide_eq_false c149, Bool.and_false]; rfl) | (rw [b2_n0 c158, Bool.not_true, Bool.and_false]; rfl) | (rw [b2_0.mp c169, Bool.and_false]))) hsz1 hB1 hM hm) ⟨rfl, rfl, rfl, rfl, rfl, rfl, rfl, rfl, trivial⟩
              | exact q_to (ih (j + 1) _ _ _ (by omega) hlt (tl_s1 hT hlt (by rw [tlB_eq, decide_eq_true c138, decide_eq_true c149, b2_0.mp c158, b2_n0 c169]; rfl)) (tl_sz hsz1 hnn) (tl_b hB1) (tl_fin (tlE_c0 c205) hM) hm) ⟨rfl, rfl, rfl, rfl, rfl, rfl, rfl, rfl, trivial⟩
              | exact q_to (ih (j + 1) _ _ _ (by omega) hlt (tl_s1 hT hlt (by rw [tlB_eq, decide_eq_true c138, decide_eq_true c149, b2_0.mp c158, b2_n0 c169]; rfl)) (tl_sz hsz1 hnn) (tl_b hB1) (tl_fin (tlE_m1 c205 (Int32.not_le.mp c222)) hM) hm) ⟨rfl, rfl, rfl, rfl, rfl, rfl, rfl, rfl, trivial⟩
              | exact q_to (ih (j + 1) _ _ _ (by omega) hlt (tl_s1 hT hlt (by rw [tlB_eq, decide_eq_true c138, decide_eq_true c149, b2_0.mp c158, b2_n0 c169]; rfl)) (tl_sz hsz1 hnn) (tl_b hB1) (tl_fin (tlE_m2 c222) hM) hm) ⟨rfl, rfl, rfl, rfl, rfl, rfl, rfl, rfl, trivial⟩
          refine q_aload_n F 0 dX5_turn_141 rfl rfl ?_
          refine qg_X5_13 F (hM.1.2.1 5 rfl).1 hM.1.1 dX5_turn_142 ?_
          refine q_iload F dX5_turn_145 rfl ?_
          refine q_iald F (hM.1.2.1 5 rfl).2.1 (hM.1.2.1 5 rfl).2.2 rfl hi40 (by decide) dX5_turn_147 ?_
          refine q_ma 5 (_) rfl hM rfl ?_
          refine q_iload_n F 3 dX5_turn_148 rfl rfl ?_
          refine q_icmp_ne F 243 dX5_turn_149 rfl (fun c149 => ?_) (fun c149 => ?_)
          · refine q_iinc F (nI (j + 1)) dX5_turn_243 rfl (nI_inc j) (by decide) rfl ?_
            refine q_goto F 115 dX5_turn_246 rfl ?_
            first
              | exact q_to (ih (j + 1) _ _ _ (by omega) hn1 (tl_s0 hT (by rw [tlB_eq]; first | (rw [decide_eq_false c138]; rfl) | (rw [decide_eq_false c149, Bool.and_false]; rfl) | (rw [b2_n0 c158, Bool.not_true, Bool.and_false]; rfl) | (rw [b2_0.mp c169, Bool.and_false]))) hsz1 hB1 hM hm) ⟨rfl, rfl, rfl, rfl, rfl, rfl, rfl, rfl, trivial⟩
              | exact q_to (ih (j + 1) _ _ _ (by omega) hlt (tl_s1 hT hlt (by rw [tlB_eq, decide_eq_true c138, decide_eq_true c149, b2_0.mp c158, b2_n0 c169]; rfl)) (tl_sz hsz1 hnn) (tl_b hB1) (tl_fin (tlE_c0 c205) hM) hm) ⟨rfl, rfl, rfl, rfl, rfl, rfl, rfl, rfl, trivial⟩
              | exact q_to (ih (j + 1) _ _ _ (by omega) hlt (tl_s1 hT hlt (by rw [tlB_eq, decide_eq_true c138, decide_eq_true c149, b2_0.mp c158, b2_n0 c169]; rfl)) (tl_sz hsz1 hnn) (tl_b hB1) (tl_fin (tlE_m1 c205 (Int32.not_le.mp c222)) hM) hm) ⟨rfl, rfl, rfl, rfl, rfl, rfl, rfl, rfl, trivial⟩
              | exact q_to (ih (j + 1) _ _ _ (by omega) hlt (tl_s1 hT hlt (by rw [tlB_eq, decide_eq_true c138, decide_eq_true c149, b2_0.mp c158, b2_n0 c169]; rfl)) (tl_sz hsz1 hnn) (tl_b hB1) (tl_fin (tlE_m2 c222) hM) hm) ⟨rfl, rfl, rfl, rfl, rfl, rfl, rfl, rfl, trivial⟩
          refine q_aload_n F 0 dX5_turn_152 rfl rfl ?_
          refine q_iload F dX5_turn_153 rfl ?_
          refine q_callV_i F (c_X5_hasEnded hM hi40) gX5_turn_X5_hasEnded rfl hd_X5_hasEnded ⟨Nat.le_of_ble_eq_true rfl, Nat.le_of_ble_eq_true rfl⟩ hM.1.1 rfl rfl rfl (Nat.le_of_ble_eq_true rfl) dX5_turn_155 ⟨Nat.le_of_ble_eq_true rfl, Nat.le_of_ble_eq_true rfl⟩ ?_
          refine q_top (v' := .int (b2 (en (sc 1) (M1 8 j)))) ?_ rfl
          refine q_if_ne F 243 dX5_turn_158 rfl (fun c158 => ?_) (fun c158 => ?_)
          · refine q_iinc F (nI (j + 1)) dX5_turn_243 rfl (nI_inc j) (by decide) rfl ?_
            refine q_goto F 115 dX5_turn_246 rfl ?_
            first
              | exact q_to (ih (j + 1) _ _ _ (by omega) hn1 (tl_s0 hT (by rw [tlB_eq]; first | (rw [decide_eq_false c138]; rfl) | (rw [decide_eq_false c149, Bool.and_false]; rfl) | (rw [b2_n0 c158, Bool.not_true, Bool.and_false]; rfl) | (rw [b2_0.mp c169, Bool.and_false]))) hsz1 hB1 hM hm) ⟨rfl, rfl, rfl, rfl, rfl, rfl, rfl, rfl, trivial⟩
              | exact q_to (ih (j + 1) _ _ _ (by omega) hlt (tl_s1 hT hlt (by rw [tlB_eq, decide_eq_true c138, decide_eq_true c149, b2_0.mp c158, b2_n0 c169]; rfl)) (tl_sz hsz1 hnn) (tl_b hB1) (tl_fin (tlE_c0 c205) hM) hm) ⟨rfl, rfl, rfl, rfl, rfl, rfl, rfl, rfl, trivial⟩
              | exact q_to (ih (j + 1) _ _ _ (by omega) hlt (tl_s1 hT hlt (by rw [tlB_eq, decide_eq_true c138, decide_eq_true c149, b2_0.mp c158, b2_n0 c169]; rfl)) (tl_sz hsz1 hnn) (tl_b hB1) (tl_fin (tlE_m1 c205 (Int32.not_le.mp c222)) hM) hm) ⟨rfl, rfl, rfl, rfl, rfl, rfl, rfl, rfl, trivial⟩
              | exact q_to (ih (j + 1) _ _ _ (by omega) hlt (tl_s1 hT hlt (by rw [tlB_eq, decide_eq_true c138, decide_eq_true c149, b2_0.mp c158, b2_n0 c169]; rfl)) (tl_sz hsz1 hnn) (tl_b hB1) (tl_fin (tlE_m2 c222) hM) hm) ⟨rfl, rfl, rfl, rfl, rfl, rfl, rfl, rfl, trivial⟩
          refine q_aload_n F 0 dX5_turn_161 rfl rfl ?_
          refine q_iload F dX5_turn_162 rfl ?_
          refine q_iload_n F 1 dX5_turn_164 rfl rfl ?_
          refine q_iload_n F 2 dX5_turn_165 rfl rfl ?_
          refine q_callV_i F (c_X5_isFor (M := M1) hM hi40 h12 hk4) gX5_turn_X5_isFor rfl hd_X5_isFor ⟨Nat.le_of_ble_eq_true rfl, Nat.le_of_ble_eq_true rfl⟩ hM.1.1 rfl rfl rfl (Nat.le_of_ble_eq_true rfl) dX5_turn_166 ⟨Nat.le_of_ble_eq_true rfl, Nat.le_of_ble_eq_true rfl⟩ ?_
          refine q_if_eq F 243 dX5_turn_169 rfl (fun c169 => ?_) (fun c169 => ?_)
          · refine q_iinc F (nI (j + 1)) dX5_turn_243 rfl (nI_inc j) (by decide) rfl ?_
            refine q_goto F 115 dX5_turn_246 rfl ?_
            first
              | exact q_to (ih (j + 1) _ _ _ (by omega) hn1 (tl_s0 hT (by rw [tlB_eq]; first | (rw [decide_eq_false c138]; rfl) | (rw [decide_eq_false c149, Bool.and_false]; rfl) | (rw [b2_n0 c158, Bool.not_true, Bool.and_false]; rfl) | (rw [b2_0.mp c169, Bool.and_false]))) hsz1 hB1 hM hm) ⟨rfl, rfl, rfl, rfl, rfl, rfl, rfl, rfl, trivial⟩
              | exact q_to (ih (j + 1) _ _ _ (by omega) hlt (tl_s1 hT hlt (by rw [tlB_eq, decide_eq_true c138, decide_eq_true c149, b2_0.mp c158, b2_n0 c169]; rfl)) (tl_sz hsz1 hnn) (tl_b hB1) (tl_fin (tlE_c0 c205) hM) hm) ⟨rfl, rfl, rfl, rfl, rfl, rfl, rfl, rfl, trivial⟩
              | exact q_to (ih (j + 1) _ _ _ (by omega) hlt (tl_s1 hT hlt (by rw [tlB_eq, decide_eq_true c138, decide_eq_true c149, b2_0.mp c158, b2_n0 c169]; rfl)) (tl_sz hsz1 hnn) (tl_b hB1) (tl_fin (tlE_m1 c205 (Int32.not_le.mp c222)) hM) hm) ⟨rfl, rfl, rfl, rfl, rfl, rfl, rfl, rfl, trivial⟩
              | exact q_to (ih (j + 1) _ _ _ (by omega) hlt (tl_s1 hT hlt (by rw [tlB_eq, decide_eq_true c138, decide_eq_true c149, b2_0.mp c158, b2_n0 c169]; rfl)) (tl_sz hsz1 hnn) (tl_b hB1) (tl_fin (tlE_m2 c222) hM) hm) ⟨rfl, rfl, rfl, rfl, rfl, rfl, rfl, rfl, trivial⟩
          have hlt := y40 hn1 c128
          refine q_aload_n F 0 dX5_turn_172 rfl rfl ?_
          refine q_iconst F dX5_turn_173 hc_0 ?_
          refine q_iload F dX5_turn_174 rfl ?_
          refine q_callV_gv F (c_X5_adds hM rfl hlt) gX5_turn_X5_adds rfl hd_X5_adds ⟨Nat.le_of_ble_eq_true rfl, Nat.le_of_ble_eq_true rfl⟩ hM.1.1 rfl rfl rfl (Nat.le_of_ble_eq_true rfl) dX5_turn_176 ⟨Nat.le_of_ble_eq_true rfl, Nat.le_of_ble_eq_true rfl⟩ (fun S176 hp176 => ?_)
          obtain ⟨hM, hm176⟩ := hp176
          have hm := hm.trans hm176
          refine q_aload_n F 0 dX5_turn_179 rfl rfl ?_
          refine q_aload_n F 0 dX5_turn_180 rfl rfl ?_
          refine qg_X5_91 F hM.1.1 dX5_turn_181 ?_
          refine q_mg 4 (nI (n1 + 1)) rfl hM rfl ?_
          refine q_iconst F dX5_turn_184 hc_1 ?_
          refine q_isub F dX5_turn_185 ?_
          refine q_top (v' := .int (nI n1)) ?_ (congrArg Value.int (nI_pred n1))
          refine q_iload F dX5_turn_186 rfl ?_
          refine q_callV_gv F (c_X5_becomesLike hM hlt hi40 (aAdd_b hB1)) gX5_turn_X5_becomesLike rfl hd_X5_becomesLike ⟨Nat.le_of_ble_eq_true rfl, Nat.le_of_ble_eq_true rfl⟩ hM.1.1 rfl rfl rfl (Nat.le_of_ble_eq_true rfl) dX5_turn_188 ⟨Nat.le_of_ble_eq_true rfl, Nat.le_of_ble_eq_true rfl⟩ (fun S188 hp188 => ?_)
          obtain ⟨hM, hm188⟩ := hp188
          have hm := hm.trans hm188
          have e8 : aLike (aAdd M1 n1 0 other (sc 1)) n1 j 8 j = M1 8 j := tl_8 (by omega)
          refine q_aload_n F 0 dX5_turn_191 rfl rfl ?_
          refine qg_X5_23 F (hM.1.2.1 8 rfl).1 hM.1.1 dX5_turn_192 ?_
          refine q_iload F dX5_turn_195 rfl ?_
          refine q_aload_n F 0 dX5_turn_197 rfl rfl ?_
          refine qg_X5_23 F (hM.1.2.1 8 rfl).1 hM.1.1 dX5_turn_198 ?_
          refine q_iload F dX5_turn_201 rfl ?_
          refine q_iald F (hM.1.2.1 8 rfl).2.1 (hM.1.2.1 8 rfl).2.2 rfl hi40 (by decide) dX5_turn_203 ?_
          refine q_ma 8 (M1 8 j) rfl hM e8 ?_
          refine q_iconst F dX5_turn_204 hc_m1 ?_
          refine q_icmp_eq F 235 dX5_turn_205 rfl (fun c205 => ?_) (fun c205 => ?_)
          · refine q_aload_n F 0 dX5_turn_235 rfl rfl ?_
            refine qg_X5_101 F hM.1.1 dX5_turn_236 ?_
            refine q_mg 1 (sc 1) rfl hM rfl ?_
            refine q_iload F dX5_turn_239 rfl ?_
            refine q_iadd F dX5_turn_241 ?_
            refine q_iast F (hM.1.2.1 8 rfl).2.1 (hM.1.2.1 8 rfl).2.2 rfl hi40 (by decide) dX5_turn_242 ?_
            refine q_mA 8 rfl hM hm (fun S242 hM hm => ?_)
            refine q_iinc F (nI (j + 1)) dX5_turn_243 rfl (nI_inc j) (by decide) rfl ?_
            refine q_goto F 115 dX5_turn_246 rfl ?_
            first
              | exact q_to (ih (j + 1) _ _ _ (by omega) hn1 (tl_s0 hT (by rw [tlB_eq]; first | (rw [decide_eq_false c138]; rfl) | (rw [decide_eq_false c149, Bool.and_false]; rfl) | (rw [b2_n0 c158, Bool.not_true, Bool.and_false]; rfl) | (rw [b2_0.mp c169, Bool.and_false]))) hsz1 hB1 hM hm) ⟨rfl, rfl, rfl, rfl, rfl, rfl, rfl, rfl, trivial⟩
              | exact q_to (ih (j + 1) _ _ _ (by omega) hlt (tl_s1 hT hlt (by rw [tlB_eq, decide_eq_true c138, decide_eq_true c149, b2_0.mp c158, b2_n0 c169]; rfl)) (tl_sz hsz1 hnn) (tl_b hB1) (tl_fin (tlE_c0 c205) hM) hm) ⟨rfl, rfl, rfl, rfl, rfl, rfl, rfl, rfl, trivial⟩
              | exact q_to (ih (j + 1) _ _ _ (by omega) hlt (tl_s1 hT hlt (by rw [tlB_eq, decide_eq_true c138, decide_eq_true c149, b2_0.mp c158, b2_n0 c169]; rfl)) (tl_sz hsz1 hnn) (tl_b hB1) (tl_fin (tlE_m1 c205 (Int32.not_le.mp c222)) hM) hm) ⟨rfl, rfl, rfl, rfl, rfl, rfl, rfl, rfl, trivial⟩
              | exact q_to (ih (j + 1) _ _ _ (by omega) hlt (tl_s1 hT hlt (by rw [tlB_eq, decide_eq_true c138, decide_eq_true c149, b2_0.mp c158, b2_n0 c169]; rfl)) (tl_sz hsz1 hnn) (tl_b hB1) (tl_fin (tlE_m2 c222) hM) hm) ⟨rfl, rfl, rfl, rfl, rfl, rfl, rfl, rfl, trivial⟩
          refine q_aload_n F 0 dX5_turn_208 rfl rfl ?_
          refine qg_X5_23 F (hM.1.2.1 8 rfl).1 hM.1.1 dX5_turn_209 ?_
          refine q_iload F dX5_turn_212 rfl ?_
          refine q_iald F (hM.1.2.1 8 rfl).2.1 (hM.1.2.1 8 rfl).2.2 rfl hi40 (by decide) dX5_turn_214 ?_
          refine q_ma 8 (M1 8 j) rfl hM e8 ?_
          refine q_aload_n F 0 dX5_turn_215 rfl rfl ?_
          refine qg_X5_101 F hM.1.1 dX5_turn_216 ?_
          refine q_mg 1 (sc 1) rfl hM rfl ?_
          refine q_iload F dX5_turn_219 rfl ?_
          refine q_iadd F dX5_turn_221 ?_
          refine q_icmp_ge F 235 dX5_turn_222 rfl (fun c222 => ?_) (fun c222 => ?_)
          · refine q_aload_n F 0 dX5_turn_235 rfl rfl ?_
            refine qg_X5_101 F hM.1.1 dX5_turn_236 ?_
            refine q_mg 1 (sc 1) rfl hM rfl ?_
            refine q_iload F dX5_turn_239 rfl ?_
            refine q_iadd F dX5_turn_241 ?_
            refine q_iast F (hM.1.2.1 8 rfl).2.1 (hM.1.2.1 8 rfl).2.2 rfl hi40 (by decide) dX5_turn_242 ?_
            refine q_mA 8 rfl hM hm (fun S242 hM hm => ?_)
            refine q_iinc F (nI (j + 1)) dX5_turn_243 rfl (nI_inc j) (by decide) rfl ?_
            refine q_goto F 115 dX5_turn_246 rfl ?_
            first
              | exact q_to (ih (j + 1) _ _ _ (by omega) hn1 (tl_s0 hT (by rw [tlB_eq]; first | (rw [decide_eq_false c138]; rfl) | (rw [decide_eq_false c149, Bool.and_false]; rfl) | (rw [b2_n0 c158, Bool.not_true, Bool.and_false]; rfl) | (rw [b2_0.mp c169, Bool.and_false]))) hsz1 hB1 hM hm) ⟨rfl, rfl, rfl, rfl, rfl, rfl, rfl, rfl, trivial⟩
              | exact q_to (ih (j + 1) _ _ _ (by omega) hlt (tl_s1 hT hlt (by rw [tlB_eq, decide_eq_true c138, decide_eq_true c149, b2_0.mp c158, b2_n0 c169]; rfl)) (tl_sz hsz1 hnn) (tl_b hB1) (tl_fin (tlE_c0 c205) hM) hm) ⟨rfl, rfl, rfl, rfl, rfl, rfl, rfl, rfl, trivial⟩
              | exact q_to (ih (j + 1) _ _ _ (by omega) hlt (tl_s1 hT hlt (by rw [tlB_eq, decide_eq_true c138, decide_eq_true c149, b2_0.mp c158, b2_n0 c169]; rfl)) (tl_sz hsz1 hnn) (tl_b hB1) (tl_fin (tlE_m1 c205 (Int32.not_le.mp c222)) hM) hm) ⟨rfl, rfl, rfl, rfl, rfl, rfl, rfl, rfl, trivial⟩
              | exact q_to (ih (j + 1) _ _ _ (by omega) hlt (tl_s1 hT hlt (by rw [tlB_eq, decide_eq_true c138, decide_eq_true c149, b2_0.mp c158, b2_n0 c169]; rfl)) (tl_sz hsz1 hnn) (tl_b hB1) (tl_fin (tlE_m2 c222) hM) hm) ⟨rfl, rfl, rfl, rfl, rfl, rfl, rfl, rfl, trivial⟩
          refine q_aload_n F 0 dX5_turn_225 rfl rfl ?_
          refine qg_X5_23 F (hM.1.2.1 8 rfl).1 hM.1.1 dX5_turn_226 ?_
          refine q_iload F dX5_turn_229 rfl ?_
          refine q_iald F (hM.1.2.1 8 rfl).2.1 (hM.1.2.1 8 rfl).2.2 rfl hi40 (by decide) dX5_turn_231 ?_
          refine q_ma 8 (M1 8 j) rfl hM e8 ?_
          refine q_goto F 242 dX5_turn_232 rfl ?_
          refine q_iast F (hM.1.2.1 8 rfl).2.1 (hM.1.2.1 8 rfl).2.2 rfl hi40 (by decide) dX5_turn_242 ?_
          refine q_mA 8 rfl hM hm (fun S242 hM hm => ?_)
          refine q_iinc F (nI (j + 1)) dX5_turn_243 rfl (nI_inc j) (by decide) rfl ?_
          refine q_goto F 115 dX5_turn_246 rfl ?_
          first
            | exact q_to (ih (j + 1) _ _ _ (by omega) hn1 (tl_s0 hT (by rw [tlB_eq]; first | (rw [decide_eq_false c138]; rfl) | (rw [decide_eq_false c149, Bool.and_false]; rfl) | (rw [b2_n0 c158, Bool.not_true, Bool.and_false]; rfl) | (rw [b2_0.mp c169, Bool.and_false]))) hsz1 hB1 hM hm) ⟨rfl, rfl, rfl, rfl, rfl, rfl, rfl, rfl, trivial⟩
            | exact q_to (ih (j + 1) _ _ _ (by omega) hlt (tl_s1 hT hlt (by rw [tlB_eq, decide_eq_true c138, decide_eq_true c149, b2_0.mp c158, b2_n0 c169]; rfl)) (tl_sz hsz1 hnn) (tl_b hB1) (tl_fin (tlE_c0 c205) hM) hm) ⟨rfl, rfl, rfl, rfl, rfl, rfl, rfl, rfl, trivial⟩
            | exact q_to (ih (j + 1) _ _ _ (by omega) hlt (tl_s1 hT hlt (by rw [tlB_eq, decide_eq_true c138, decide_eq_true c149, b2_0.mp c158, b2_n0 c169]; rfl)) (tl_sz hsz1 hnn) (tl_b hB1) (tl_fin (tlE_m1 c205 (Int32.not_le.mp c222)) hM) hm) ⟨rfl, rfl, rfl, rfl, rfl, rfl, rfl, rfl, trivial⟩
            | exact q_to (ih (j + 1) _ _ _ (by omega) hlt (tl_s1 hT hlt (by rw [tlB_eq, decide_eq_true c138, decide_eq_true c149, b2_0.mp c158, b2_n0 c169]; rfl)) (tl_sz hsz1 hnn) (tl_b hB1) (tl_fin (tlE_m2 c222) hM) hm) ⟨rfl, rfl, rfl, rfl, rfl, rfl, rfl, rfl, trivial⟩
      exact q_to (L n 0 _ M n (by omega) hn40 rfl hsz hB16 (by rw [scN_self (show va_up sc 0 0 4 = nI n from hn)]; exact hM) hm) ⟨rfl, rfl, rfl, rfl, rfl, rfl, rfl, rfl, trivial⟩
    exact absurd c101 (by decide)
  exact absurd c81 (by decide)

set_option maxHeartbeats 4000000 in
set_option maxRecDepth 100000 in
theorem c_X5_clean {l : Launch} {g : hG} {X : va_W} {S : hS} {md : Nat} {ar : Nat → Nat} {sc : Nat → Int32} {M : Nat → Nat → Int32} (hM : mS S md ar sc M) {n : Nat} (hn : sc 4 = nI n) (hn40 : n ≤ 40) (hB16 : ∀ x, isB (M 16 x)) {days : Int32} : hMet l yX5_clean wsX5_clean rm_X5_clean g X S [.ref md, .int days] (mP1 S md ar (inR days 1 5000) sc M (nI (n - (cl (sc 1) days n (M, n)).2)) (scN (va_up sc 0 0) (cl (sc 1) days n (M, n)).2) (cl (sc 1) days n (M, n)).1) := by
  refine h_start (maxL := 4) (ret := (some .int)) (by decide) rfl (Nat.le_of_ble_eq_true rfl) ?_
  intro p e s m args below meth c F hr hinit
  have hm := mdF.rf S
  refine q_aload_n F 0 dX5_clean_0 rfl rfl ?_
  refine q_iload_n F 1 dX5_clean_1 rfl rfl ?_
  refine q_iconst F dX5_clean_2 hc_1 ?_
  refine q_sipush (v := 5000) F dX5_clean_3 (by decide) ?_
  refine q_callS_i F (c_X5_isIn) gX5_clean_X5_isIn rfl hd_X5_isIn ⟨Nat.le_of_ble_eq_true rfl, Nat.le_of_ble_eq_true rfl⟩ rfl rfl (Nat.le_of_ble_eq_true rfl) dX5_clean_6 ⟨Nat.le_of_ble_eq_true rfl, Nat.le_of_ble_eq_true rfl⟩ ?_
  refine q_if_eq F 16 dX5_clean_9 rfl (fun c9 => ?_) (fun c9 => ?_)
  · refine q_iconst F dX5_clean_16 hc_1 ?_
    refine q_callV_gi F (c_X5_holds hM) gX5_clean_X5_holds rfl hd_X5_holds ⟨Nat.le_of_ble_eq_true rfl, Nat.le_of_ble_eq_true rfl⟩ hM.1.1 rfl rfl rfl (Nat.le_of_ble_eq_true rfl) dX5_clean_17 ⟨Nat.le_of_ble_eq_true rfl, Nat.le_of_ble_eq_true rfl⟩ (fun r17 S17 hp17 => ?_)
    obtain ⟨rfl, hM, hm17⟩ := hp17
    have hm := hm.trans hm17
    refine q_cz ?_
    refine q_if_ne F 25 dX5_clean_20 rfl (fun c20 => ?_) (fun c20 => ?_)
    · exact absurd c20 (by decide)
    refine q_iconst F dX5_clean_23 hc_0 ?_
    exact (q_reti F hr rfl dX5_clean_24 (Nat.le_of_ble_eq_true rfl) (Nat.le_of_ble_eq_true rfl) ⟨_, rfl, hm, Or.inl ⟨b2_0.mp c9, hM⟩⟩)
  refine q_iconst F dX5_clean_12 hc_0 ?_
  refine q_goto F 17 dX5_clean_13 rfl ?_
  refine q_callV_gi F (c_X5_holds hM) gX5_clean_X5_holds rfl hd_X5_holds ⟨Nat.le_of_ble_eq_true rfl, Nat.le_of_ble_eq_true rfl⟩ hM.1.1 rfl rfl rfl (Nat.le_of_ble_eq_true rfl) dX5_clean_17 ⟨Nat.le_of_ble_eq_true rfl, Nat.le_of_ble_eq_true rfl⟩ (fun r17 S17 hp17 => ?_)
  obtain ⟨rfl, hM, hm17⟩ := hp17
  have hm := hm.trans hm17
  refine q_cz ?_
  refine q_if_ne F 25 dX5_clean_20 rfl (fun c20 => ?_) (fun c20 => ?_)
  · have hAA := b2_n0 c9
    refine q_aload_n F 0 dX5_clean_25 rfl rfl ?_
    refine qg_X5_91 F hM.1.1 dX5_clean_26 ?_
    refine q_mg 4 (nI n) rfl hM hn ?_
    refine q_istore_n F 2 dX5_clean_29 rfl (by decide) rfl ?_
    refine q_aload_n F 0 dX5_clean_30 rfl rfl ?_
    refine qg_X5_91 F hM.1.1 dX5_clean_31 ?_
    refine q_mg 4 (nI n) rfl hM hn ?_
    refine q_iconst F dX5_clean_34 hc_1 ?_
    refine q_isub F dX5_clean_35 ?_
    refine q_top (v' := .int (dN n)) ?_ (congrArg Value.int (dN_pred n))
    refine q_istore_n F 3 dX5_clean_36 rfl (by decide) rfl ?_
    have L : ∀ (k : Nat) (S1 : hS) (M1 : Nat → Nat → Int32) (n1 : Nat), k ≤ n1 → n1 ≤ n → cl (sc 1) days k (M1, n1) = cl (sc 1) days n (M, n) → (∀ x, isB (M1 16 x)) → mS S1 md ar (scN (va_up sc 0 0) n1) M1 → mdF S S1 → V p l e rm_X5_clean s m args below meth c 4 g X (MQ below (hQ g X (mP1 S md ar (inR days 1 5000) sc M (nI (n - (cl (sc 1) days n (M, n)).2)) (scN (va_up sc 0 0) (cl (sc 1) days n (M, n)).2) (cl (sc 1) days n (M, n)).1)) args s rm_X5_clean.cells rm_X5_clean.slots (hA g)) S1 0 0 [(0, .ref md), (1, .int days), (2, .int (nI n)), (3, .int (dN k))] 37 [] := by
      intro k
      induction k with
      | zero =>
        intro S1 M1 n1 hk hnn hT hB1 hM hm
        refine q_iload_n F 3 dX5_clean_37 rfl rfl ?_
        refine q_if_lt F 84 dX5_clean_38 rfl (fun c38 => ?_) (fun c38 => ?_)
        · refine q_iload_n F 2 dX5_clean_84 rfl rfl ?_
          refine q_aload_n F 0 dX5_clean_85 rfl rfl ?_
          refine qg_X5_91 F hM.1.1 dX5_clean_86 ?_
          refine q_mg 4 (nI n1) rfl hM rfl ?_
          refine q_isub F dX5_clean_89 ?_
          refine q_top (v' := .int (nI (n - n1))) ?_ (congrArg Value.int (nI_sub hnn))
          exact (q_reti F hr rfl dX5_clean_90 (Nat.le_of_ble_eq_true rfl) (Nat.le_of_ble_eq_true rfl) ⟨_, rfl, hm, Or.inr ⟨hAA, by rw [← hT]; exact ⟨rfl, hM⟩⟩⟩)
        exact absurd c38 (by decide)
      | succ k ih =>
        intro S1 M1 n1 hk hnn hT hB1 hM hm
        obtain ⟨n0, rfl⟩ : ∃ n0, n1 = n0 + 1 := ⟨n1 - 1, by omega⟩
        have hi40 : k < 40 := by omega
        refine q_iload_n F 3 dX5_clean_37 rfl rfl ?_
        refine q_if_lt F 84 dX5_clean_38 rfl (fun c38 => ?_) (fun c38 => ?_)
        · exact absurd c38 (dN_s (by omega))
        refine q_aload_n F 0 dX5_clean_41 rfl rfl ?_
        refine qg_X5_17 F (hM.1.2.1 6 rfl).1 hM.1.1 dX5_clean_42 ?_
        refine q_iload_n F 3 dX5_clean_45 rfl rfl ?_
        refine q_iald F (hM.1.2.1 6 rfl).2.1 (hM.1.2.1 6 rfl).2.2 rfl hi40 (by decide) dX5_clean_46 ?_
        refine q_ma 6 (_) rfl hM rfl ?_
        refine q_if_ne F 78 dX5_clean_47 rfl (fun c47 => ?_) (fun c47 => ?_)
        · refine q_iinc F (dN k) dX5_clean_78 rfl (dN_dec k) (by decide) rfl ?_
          refine q_goto F 37 dX5_clean_81 rfl ?_
          first
            | exact q_to (ih _ _ (n0 + 1) (by omega) hnn (by rw [← hT, cl_s0 (by rw [clB_eq']; first | (rw [decide_eq_false c47]; rfl) | (rw [b2_0.mp c55, decide_eq_false (Int32.not_le.mpr c70), Bool.or_self, Bool.and_false]))]) hB1 hM hm) ⟨rfl, rfl, rfl, rfl, trivial⟩
            | exact q_to (ih _ _ n0 (by omega) (by omega) (by rw [← hT, cl_s1 (by rw [clB_eq', decide_eq_true c47]; first | (rw [b2_n0 c55]; rfl) | (rw [decide_eq_true (Int32.not_lt.mp c70), Bool.or_true]; rfl))]) (aRem_b hB1) (by rw [scN_scN] at hM; exact hM) hm) ⟨rfl, rfl, rfl, rfl, trivial⟩
        refine q_aload_n F 0 dX5_clean_50 rfl rfl ?_
        refine q_iload_n F 3 dX5_clean_51 rfl rfl ?_
        refine q_callV_i F (c_X5_hasEnded (i := k) hM hi40) gX5_clean_X5_hasEnded rfl hd_X5_hasEnded ⟨Nat.le_of_ble_eq_true rfl, Nat.le_of_ble_eq_true rfl⟩ hM.1.1 rfl rfl rfl (Nat.le_of_ble_eq_true rfl) dX5_clean_52 ⟨Nat.le_of_ble_eq_true rfl, Nat.le_of_ble_eq_true rfl⟩ ?_
        refine q_top (v' := .int (b2 (en (sc 1) (M1 8 k)))) ?_ rfl
        refine q_if_ne F 73 dX5_clean_55 rfl (fun c55 => ?_) (fun c55 => ?_)
        · refine q_aload_n F 0 dX5_clean_73 rfl rfl ?_
          refine q_iload_n F 3 dX5_clean_74 rfl rfl ?_
          refine q_callV_gv F (c_X5_removes (i := k) hM rfl (show n0 < 40 by omega) (show k < n0 + 1 by omega) hB1) gX5_clean_X5_removes rfl hd_X5_removes ⟨Nat.le_of_ble_eq_true rfl, Nat.le_of_ble_eq_true rfl⟩ hM.1.1 rfl rfl rfl (Nat.le_of_ble_eq_true rfl) dX5_clean_75 ⟨Nat.le_of_ble_eq_true rfl, Nat.le_of_ble_eq_true rfl⟩ (fun S75 hp75 => ?_)
          obtain ⟨hM, hm75⟩ := hp75
          have hm := hm.trans hm75
          refine q_iinc F (dN k) dX5_clean_78 rfl (dN_dec k) (by decide) rfl ?_
          refine q_goto F 37 dX5_clean_81 rfl ?_
          first
            | exact q_to (ih _ _ (n0 + 1) (by omega) hnn (by rw [← hT, cl_s0 (by rw [clB_eq']; first | (rw [decide_eq_false c47]; rfl) | (rw [b2_0.mp c55, decide_eq_false (Int32.not_le.mpr c70), Bool.or_self, Bool.and_false]))]) hB1 hM hm) ⟨rfl, rfl, rfl, rfl, trivial⟩
            | exact q_to (ih _ _ n0 (by omega) (by omega) (by rw [← hT, cl_s1 (by rw [clB_eq', decide_eq_true c47]; first | (rw [b2_n0 c55]; rfl) | (rw [decide_eq_true (Int32.not_lt.mp c70), Bool.or_true]; rfl))]) (aRem_b hB1) (by rw [scN_scN] at hM; exact hM) hm) ⟨rfl, rfl, rfl, rfl, trivial⟩
        refine q_aload_n F 0 dX5_clean_58 rfl rfl ?_
        refine qg_X5_101 F hM.1.1 dX5_clean_59 ?_
        refine q_mg 1 (sc 1) rfl hM rfl ?_
        refine q_aload_n F 0 dX5_clean_62 rfl rfl ?_
        refine qg_X5_20 F (hM.1.2.1 7 rfl).1 hM.1.1 dX5_clean_63 ?_
        refine q_iload_n F 3 dX5_clean_66 rfl rfl ?_
        refine q_iald F (hM.1.2.1 7 rfl).2.1 (hM.1.2.1 7 rfl).2.2 rfl hi40 (by decide) dX5_clean_67 ?_
        refine q_ma 7 (_) rfl hM rfl ?_
        refine q_isub F dX5_clean_68 ?_
        refine q_iload_n F 1 dX5_clean_69 rfl rfl ?_
        refine q_icmp_lt F 78 dX5_clean_70 rfl (fun c70 => ?_) (fun c70 => ?_)
        · refine q_iinc F (dN k) dX5_clean_78 rfl (dN_dec k) (by decide) rfl ?_
          refine q_goto F 37 dX5_clean_81 rfl ?_
          first
            | exact q_to (ih _ _ (n0 + 1) (by omega) hnn (by rw [← hT, cl_s0 (by rw [clB_eq']; first | (rw [decide_eq_false c47]; rfl) | (rw [b2_0.mp c55, decide_eq_false (Int32.not_le.mpr c70), Bool.or_self, Bool.and_false]))]) hB1 hM hm) ⟨rfl, rfl, rfl, rfl, trivial⟩
            | exact q_to (ih _ _ n0 (by omega) (by omega) (by rw [← hT, cl_s1 (by rw [clB_eq', decide_eq_true c47]; first | (rw [b2_n0 c55]; rfl) | (rw [decide_eq_true (Int32.not_lt.mp c70), Bool.or_true]; rfl))]) (aRem_b hB1) (by rw [scN_scN] at hM; exact hM) hm) ⟨rfl, rfl, rfl, rfl, trivial⟩
        refine q_aload_n F 0 dX5_clean_73 rfl rfl ?_
        refine q_iload_n F 3 dX5_clean_74 rfl rfl ?_
        refine q_callV_gv F (c_X5_removes (i := k) hM rfl (show n0 < 40 by omega) (show k < n0 + 1 by omega) hB1) gX5_clean_X5_removes rfl hd_X5_removes ⟨Nat.le_of_ble_eq_true rfl, Nat.le_of_ble_eq_true rfl⟩ hM.1.1 rfl rfl rfl (Nat.le_of_ble_eq_true rfl) dX5_clean_75 ⟨Nat.le_of_ble_eq_true rfl, Nat.le_of_ble_eq_true rfl⟩ (fun S75 hp75 => ?_)
        obtain ⟨hM, hm75⟩ := hp75
        have hm := hm.trans hm75
        refine q_iinc F (dN k) dX5_clean_78 rfl (dN_dec k) (by decide) rfl ?_
        refine q_goto F 37 dX5_clean_81 rfl ?_
        first
          | exact q_to (ih _ _ (n0 + 1) (by omega) hnn (by rw [← hT, cl_s0 (by rw [clB_eq']; first | (rw [decide_eq_false c47]; rfl) | (rw [b2_0.mp c55, decide_eq_false (Int32.not_le.mpr c70), Bool.or_self, Bool.and_false]))]) hB1 hM hm) ⟨rfl, rfl, rfl, rfl, trivial⟩
          | exact q_to (ih _ _ n0 (by omega) (by omega) (by rw [← hT, cl_s1 (by rw [clB_eq', decide_eq_true c47]; first | (rw [b2_n0 c55]; rfl) | (rw [decide_eq_true (Int32.not_lt.mp c70), Bool.or_true]; rfl))]) (aRem_b hB1) (by rw [scN_scN] at hM; exact hM) hm) ⟨rfl, rfl, rfl, rfl, trivial⟩
    exact q_to (L n _ M n (Nat.le_refl _) (Nat.le_refl _) rfl hB16 (by rw [scN_self (show va_up sc 0 0 4 = nI n from hn)]; exact hM) hm) ⟨rfl, rfl, rfl, rfl, trivial⟩
  exact absurd c20 (by decide)

