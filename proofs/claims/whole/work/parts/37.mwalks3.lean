set_option maxHeartbeats 4000000 in
set_option maxRecDepth 100000 in
theorem c_X5_isJudged_0 {l : Launch} {g : hG} {X : va_W} {S : hS} {md : Nat} {ar : Nat → Nat} {sc : Nat → Int32} {M : Nat → Nat → Int32} (hM : mS S md ar sc M) {nc : Nat} (hc : sc 17 = nI nc) (hc20 : nc ≤ 20) {name port key : Int32} {ct : Int32} (hA1 : okC ct nc = false) : hMet l yX5_isJudged wsX5_isJudged rm_X5_isJudged g X S [.ref md, .int name, .int port, .int key, .int ct] (mI S md ar 0 (va_up sc 0 1) M) := by
  refine h_start (maxL := 5) (ret := (some .boolean)) (by decide) rfl (Nat.le_of_ble_eq_true rfl) ?_
  intro p e s m args below meth c F hr hinit
  have hm := mdF.rf S
  refine q_aload_n F 0 dX5_isJudged_0 rfl rfl ?_
  refine q_iload F dX5_isJudged_1 rfl ?_
  refine q_iconst F dX5_isJudged_3 hc_m1 ?_
  refine q_aload_n F 0 dX5_isJudged_4 rfl rfl ?_
  refine qg_X5_142 F hM.1.1 dX5_isJudged_5 ?_
  refine q_mg 17 (nI nc) rfl hM hc ?_
  refine q_iconst F dX5_isJudged_8 hc_1 ?_
  refine q_isub F dX5_isJudged_9 ?_
  refine q_callS_i F (c_X5_isIn) gX5_isJudged_X5_isIn rfl hd_X5_isIn ⟨Nat.le_of_ble_eq_true rfl, Nat.le_of_ble_eq_true rfl⟩ rfl rfl (Nat.le_of_ble_eq_true rfl) dX5_isJudged_10 ⟨Nat.le_of_ble_eq_true rfl, Nat.le_of_ble_eq_true rfl⟩ ?_
  refine q_if_ne F 20 dX5_isJudged_13 rfl (fun c13 => ?_) (fun c13 => ?_)
  · exact absurd c13 (not_not_intro (by rw [okC_eq (by omega), hA1]; rfl))
  refine q_iconst F dX5_isJudged_16 hc_1 ?_
  refine q_goto F 34 dX5_isJudged_17 rfl ?_
  refine q_callV_gi F (c_X5_holds hM) gX5_isJudged_X5_holds rfl hd_X5_holds ⟨Nat.le_of_ble_eq_true rfl, Nat.le_of_ble_eq_true rfl⟩ hM.1.1 rfl rfl rfl (Nat.le_of_ble_eq_true rfl) dX5_isJudged_34 ⟨Nat.le_of_ble_eq_true rfl, Nat.le_of_ble_eq_true rfl⟩ (fun r34 S34 hp34 => ?_)
  obtain ⟨rfl, hM, hm34⟩ := hp34
  have hm := hm.trans hm34
  refine q_cz ?_
  exact (q_reti F hr rfl dX5_isJudged_37 (Nat.le_of_ble_eq_true rfl) (Nat.le_of_ble_eq_true rfl) ⟨_, rfl, rfl, hM, hm⟩)

set_option maxHeartbeats 4000000 in
set_option maxRecDepth 100000 in
theorem c_X5_isJudged_1 {l : Launch} {g : hG} {X : va_W} {S : hS} {md : Nat} {ar : Nat → Nat} {sc : Nat → Int32} {M : Nat → Nat → Int32} (hM : mS S md ar sc M) {nc : Nat} (hc : sc 17 = nI nc) (hc20 : nc ≤ 20) {name port key : Int32} {ct : Int32} (hA1 : okC ct nc = true) (hB1 : (okNP name port && okK key) = false) : hMet l yX5_isJudged wsX5_isJudged rm_X5_isJudged g X S [.ref md, .int name, .int port, .int key, .int ct] (mI S md ar 0 (va_up sc 0 2) M) := by
  refine h_start (maxL := 5) (ret := (some .boolean)) (by decide) rfl (Nat.le_of_ble_eq_true rfl) ?_
  intro p e s m args below meth c F hr hinit
  have hm := mdF.rf S
  refine q_aload_n F 0 dX5_isJudged_0 rfl rfl ?_
  refine q_iload F dX5_isJudged_1 rfl ?_
  refine q_iconst F dX5_isJudged_3 hc_m1 ?_
  refine q_aload_n F 0 dX5_isJudged_4 rfl rfl ?_
  refine qg_X5_142 F hM.1.1 dX5_isJudged_5 ?_
  refine q_mg 17 (nI nc) rfl hM hc ?_
  refine q_iconst F dX5_isJudged_8 hc_1 ?_
  refine q_isub F dX5_isJudged_9 ?_
  refine q_callS_i F (c_X5_isIn) gX5_isJudged_X5_isIn rfl hd_X5_isIn ⟨Nat.le_of_ble_eq_true rfl, Nat.le_of_ble_eq_true rfl⟩ rfl rfl (Nat.le_of_ble_eq_true rfl) dX5_isJudged_10 ⟨Nat.le_of_ble_eq_true rfl, Nat.le_of_ble_eq_true rfl⟩ ?_
  refine q_if_ne F 20 dX5_isJudged_13 rfl (fun c13 => ?_) (fun c13 => ?_)
  · refine q_iload_n F 1 dX5_isJudged_20 rfl rfl ?_
    refine q_iload_n F 2 dX5_isJudged_21 rfl rfl ?_
    refine q_iload_n F 3 dX5_isJudged_22 rfl rfl ?_
    refine q_callS_i F (c_X5_areAsked) gX5_isJudged_X5_areAsked rfl hd_X5_areAsked ⟨Nat.le_of_ble_eq_true rfl, Nat.le_of_ble_eq_true rfl⟩ rfl rfl (Nat.le_of_ble_eq_true rfl) dX5_isJudged_23 ⟨Nat.le_of_ble_eq_true rfl, Nat.le_of_ble_eq_true rfl⟩ ?_
    refine q_if_eq F 33 dX5_isJudged_26 rfl (fun c26 => ?_) (fun c26 => ?_)
    · refine q_iconst F dX5_isJudged_33 hc_2 ?_
      refine q_callV_gi F (c_X5_holds hM) gX5_isJudged_X5_holds rfl hd_X5_holds ⟨Nat.le_of_ble_eq_true rfl, Nat.le_of_ble_eq_true rfl⟩ hM.1.1 rfl rfl rfl (Nat.le_of_ble_eq_true rfl) dX5_isJudged_34 ⟨Nat.le_of_ble_eq_true rfl, Nat.le_of_ble_eq_true rfl⟩ (fun r34 S34 hp34 => ?_)
      obtain ⟨rfl, hM, hm34⟩ := hp34
      have hm := hm.trans hm34
      refine q_cz ?_
      exact (q_reti F hr rfl dX5_isJudged_37 (Nat.le_of_ble_eq_true rfl) (Nat.le_of_ble_eq_true rfl) ⟨_, rfl, rfl, hM, hm⟩)
    exact absurd c26 (not_not_intro (by rw [hB1]; rfl))
  exact absurd c13 (by rw [okC_eq (by omega), hA1]; decide)

set_option maxHeartbeats 4000000 in
set_option maxRecDepth 100000 in
theorem c_X5_isJudged_2 {l : Launch} {g : hG} {X : va_W} {S : hS} {md : Nat} {ar : Nat → Nat} {sc : Nat → Int32} {M : Nat → Nat → Int32} (hM : mS S md ar sc M) {nc : Nat} (hc : sc 17 = nI nc) (hc20 : nc ≤ 20) {name port key : Int32} {ct : Int32} (hA1 : okC ct nc = true) (hB1 : (okNP name port && okK key) = true) : hMet l yX5_isJudged wsX5_isJudged rm_X5_isJudged g X S [.ref md, .int name, .int port, .int key, .int ct] (mI S md ar 1 (va_up sc 0 0) M) := by
  refine h_start (maxL := 5) (ret := (some .boolean)) (by decide) rfl (Nat.le_of_ble_eq_true rfl) ?_
  intro p e s m args below meth c F hr hinit
  have hm := mdF.rf S
  refine q_aload_n F 0 dX5_isJudged_0 rfl rfl ?_
  refine q_iload F dX5_isJudged_1 rfl ?_
  refine q_iconst F dX5_isJudged_3 hc_m1 ?_
  refine q_aload_n F 0 dX5_isJudged_4 rfl rfl ?_
  refine qg_X5_142 F hM.1.1 dX5_isJudged_5 ?_
  refine q_mg 17 (nI nc) rfl hM hc ?_
  refine q_iconst F dX5_isJudged_8 hc_1 ?_
  refine q_isub F dX5_isJudged_9 ?_
  refine q_callS_i F (c_X5_isIn) gX5_isJudged_X5_isIn rfl hd_X5_isIn ⟨Nat.le_of_ble_eq_true rfl, Nat.le_of_ble_eq_true rfl⟩ rfl rfl (Nat.le_of_ble_eq_true rfl) dX5_isJudged_10 ⟨Nat.le_of_ble_eq_true rfl, Nat.le_of_ble_eq_true rfl⟩ ?_
  refine q_if_ne F 20 dX5_isJudged_13 rfl (fun c13 => ?_) (fun c13 => ?_)
  · refine q_iload_n F 1 dX5_isJudged_20 rfl rfl ?_
    refine q_iload_n F 2 dX5_isJudged_21 rfl rfl ?_
    refine q_iload_n F 3 dX5_isJudged_22 rfl rfl ?_
    refine q_callS_i F (c_X5_areAsked) gX5_isJudged_X5_areAsked rfl hd_X5_areAsked ⟨Nat.le_of_ble_eq_true rfl, Nat.le_of_ble_eq_true rfl⟩ rfl rfl (Nat.le_of_ble_eq_true rfl) dX5_isJudged_23 ⟨Nat.le_of_ble_eq_true rfl, Nat.le_of_ble_eq_true rfl⟩ ?_
    refine q_if_eq F 33 dX5_isJudged_26 rfl (fun c26 => ?_) (fun c26 => ?_)
    · exact absurd c26 (by rw [hB1]; decide)
    refine q_iconst F dX5_isJudged_29 hc_0 ?_
    refine q_goto F 34 dX5_isJudged_30 rfl ?_
    refine q_callV_gi F (c_X5_holds hM) gX5_isJudged_X5_holds rfl hd_X5_holds ⟨Nat.le_of_ble_eq_true rfl, Nat.le_of_ble_eq_true rfl⟩ hM.1.1 rfl rfl rfl (Nat.le_of_ble_eq_true rfl) dX5_isJudged_34 ⟨Nat.le_of_ble_eq_true rfl, Nat.le_of_ble_eq_true rfl⟩ (fun r34 S34 hp34 => ?_)
    obtain ⟨rfl, hM, hm34⟩ := hp34
    have hm := hm.trans hm34
    refine q_cz ?_
    exact (q_reti F hr rfl dX5_isJudged_37 (Nat.le_of_ble_eq_true rfl) (Nat.le_of_ble_eq_true rfl) ⟨_, rfl, rfl, hM, hm⟩)
  exact absurd c13 (by rw [okC_eq (by omega), hA1]; decide)

set_option maxHeartbeats 4000000 in
set_option maxRecDepth 100000 in
theorem c_X5_judgement_n {l : Launch} {g : hG} {X : va_W} {S : hS} {md : Nat} {ar : Nat → Nat} {sc : Nat → Int32} {M : Nat → Nat → Int32} (hM : mS S md ar sc M) {n : Nat} (hn : sc 4 = nI n) (hn40 : n ≤ 40) (hsz : ∀ i, i < n → ∃ k, k ≤ 4 ∧ M 12 i = nI k) {ns : Nat} (hs : sc 25 = nI ns) (hs20 : ns ≤ 20) {name port key : Int32} : hMet l yX5_judgement wsX5_judgement rm_X5_judgement g X S [.ref md, .int name, .int port, .int key, .int (-1)] (pI (jg (sc 1) M n ns name port key none) S) := by
  refine h_start (maxL := 9) (ret := (some .int)) (by decide) rfl (Nat.le_of_ble_eq_true rfl) ?_
  intro p e s m args below meth c F hr hinit
  have hm := mdF.rf S
  refine q_aload_n F 0 dX5_judgement_0 rfl rfl ?_
  refine q_iconst F dX5_judgement_1 hc_1 ?_
  refine q_iload_n F 3 dX5_judgement_2 rfl rfl ?_
  refine q_iconst F dX5_judgement_3 hc_1 ?_
  refine q_iload_n F 1 dX5_judgement_4 rfl rfl ?_
  refine q_iload_n F 2 dX5_judgement_5 rfl rfl ?_
  refine q_callV_i F (c_X5_has (isAny := true) hM hn hn40 hsz) gX5_judgement_X5_has rfl hd_X5_has ⟨Nat.le_of_ble_eq_true rfl, Nat.le_of_ble_eq_true rfl⟩ hM.1.1 rfl rfl rfl (Nat.le_of_ble_eq_true rfl) dX5_judgement_6 ⟨Nat.le_of_ble_eq_true rfl, Nat.le_of_ble_eq_true rfl⟩ ?_
  refine q_if_ne F 36 dX5_judgement_9 rfl (fun c9 => ?_) (fun c9 => ?_)
  · refine q_iconst F dX5_judgement_36 hc_0 ?_
    exact (q_reti F hr rfl dX5_judgement_37 (Nat.le_of_ble_eq_true rfl) (Nat.le_of_ble_eq_true rfl) ⟨by rw [jg_n0 (b2_n0 c9)], rfl⟩)
  refine q_iload F dX5_judgement_12 rfl ?_
  refine q_iconst F dX5_judgement_14 hc_m1 ?_
  refine q_icmp_eq F 38 dX5_judgement_15 rfl (fun c15 => ?_) (fun c15 => ?_)
  · refine q_iload F dX5_judgement_38 rfl ?_
    refine q_iconst F dX5_judgement_40 hc_m1 ?_
    refine q_icmp_eq F 68 dX5_judgement_41 rfl (fun c41 => ?_) (fun c41 => ?_)
    · refine q_iconst F dX5_judgement_68 hc_5 ?_
      refine q_istore F dX5_judgement_69 (by decide) rfl ?_
      refine q_iconst F dX5_judgement_71 hc_0 ?_
      refine q_istore F dX5_judgement_72 (by decide) rfl ?_
      have hJ : (jg (sc 1) M n ns name port key none) = bst (sc 1) M name port key n := by exact jg_n1 (b2_0.mp c9)
      have L : ∀ (r j : Nat), j + r = n → V p l e rm_X5_judgement s m args below meth c 9 g X (MQ below (hQ g X (pI (jg (sc 1) M n ns name port key none) S)) args s rm_X5_judgement.cells rm_X5_judgement.slots (hA g)) S 0 0 [(0, .ref md), (1, .int name), (2, .int port), (3, .int key), (4, .int (-1)), (5, .int (bst (sc 1) M name port key j)), (6, .int (nI j))] 74 [] := by
        intro r
        induction r with
        | zero =>
          intro j hjr
          have hjk : j = n := by omega
          refine q_iload F dX5_judgement_74 rfl ?_
          refine q_aload_n F 0 dX5_judgement_76 rfl rfl ?_
          refine qg_X5_91 F hM.1.1 dX5_judgement_77 ?_
          refine q_mg 4 (nI n) rfl hM hn ?_
          refine q_icmp_ge F 184 dX5_judgement_80 rfl (fun c80 => ?_) (fun c80 => ?_)
          · refine q_iload F dX5_judgement_184 rfl ?_
            exact (q_reti F hr rfl dX5_judgement_186 (Nat.le_of_ble_eq_true rfl) (Nat.le_of_ble_eq_true rfl) ⟨by rw [hJ, hjk], rfl⟩)
          exact absurd c80 (gT rfl rfl (show n ≤ j by omega) (by omega))
        | succ r ih =>
          intro j hjr
          have hj : j < n := by omega
          have hi40 : j < 40 := by omega
          obtain ⟨k, hk4, h12⟩ := hsz j hj
          refine q_iload F dX5_judgement_74 rfl ?_
          refine q_aload_n F 0 dX5_judgement_76 rfl rfl ?_
          refine qg_X5_91 F hM.1.1 dX5_judgement_77 ?_
          refine q_mg 4 (nI n) rfl hM hn ?_
          refine q_icmp_ge F 184 dX5_judgement_80 rfl (fun c80 => ?_) (fun c80 => ?_)
          · exact absurd c80 (gF rfl rfl hj (by omega))
          refine q_aload_n F 0 dX5_judgement_83 rfl rfl ?_
          refine qg_X5_17 F (hM.1.2.1 6 rfl).1 hM.1.1 dX5_judgement_84 ?_
          refine q_iload F dX5_judgement_87 rfl ?_
          refine q_iald F (hM.1.2.1 6 rfl).2.1 (hM.1.2.1 6 rfl).2.2 rfl hi40 (by decide) dX5_judgement_89 ?_
          refine q_ma 6 (_) rfl hM rfl ?_
          refine q_if_ne F 117 dX5_judgement_90 rfl (fun c90 => ?_) (fun c90 => ?_)
          · refine q_iconst F dX5_judgement_117 hc_0 ?_
            refine q_istore F dX5_judgement_118 (by decide) rfl ?_
            refine q_aload_n F 0 dX5_judgement_120 rfl rfl ?_
            refine qg_X5_13 F (hM.1.2.1 5 rfl).1 hM.1.1 dX5_judgement_121 ?_
            refine q_iload F dX5_judgement_124 rfl ?_
            refine q_iald F (hM.1.2.1 5 rfl).2.1 (hM.1.2.1 5 rfl).2.2 rfl hi40 (by decide) dX5_judgement_126 ?_
            refine q_ma 5 (_) rfl hM rfl ?_
            refine q_iload_n F 3 dX5_judgement_127 rfl rfl ?_
            refine q_icmp_ne F 135 dX5_judgement_128 rfl (fun c128 => ?_) (fun c128 => ?_)
            · refine q_aload_n F 0 dX5_judgement_135 rfl rfl ?_
              refine qg_X5_13 F (hM.1.2.1 5 rfl).1 hM.1.1 dX5_judgement_136 ?_
              refine q_iload F dX5_judgement_139 rfl ?_
              refine q_iald F (hM.1.2.1 5 rfl).2.1 (hM.1.2.1 5 rfl).2.2 rfl hi40 (by decide) dX5_judgement_141 ?_
              refine q_ma 5 (_) rfl hM rfl ?_
              refine q_iconst F dX5_judgement_142 hc_3 ?_
              refine q_irem F dX5_judgement_143 (by decide) ?_
              refine q_iload_n F 3 dX5_judgement_144 rfl rfl ?_
              refine q_iconst F dX5_judgement_145 hc_3 ?_
              refine q_irem F dX5_judgement_146 (by decide) ?_
              refine q_icmp_ne F 154 dX5_judgement_147 rfl (fun c147 => ?_) (fun c147 => ?_)
              · refine q_iconst F dX5_judgement_154 hc_4 ?_
                refine q_istore F dX5_judgement_155 (by decide) rfl ?_
                refine q_iload F dX5_judgement_157 rfl ?_
                refine q_if_eq F 174 dX5_judgement_159 rfl (fun c159 => ?_) (fun c159 => ?_)
                · refine q_iload F dX5_judgement_174 rfl ?_
                  refine q_istore F dX5_judgement_176 (by decide) rfl ?_
                  refine q_iinc F (nI (j + 1)) dX5_judgement_178 rfl (nI_inc j) (by decide) rfl ?_
                  refine q_goto F 74 dX5_judgement_181 rfl ?_
                  exact q_to (ih (j + 1) (by omega)) ⟨rfl, rfl, rfl, rfl, rfl, congrArg (fun z => some (Value.int z)) (by first | exact (bst_0 (by first | (rw [decide_eq_false c90]; rfl) | (rw [b2_n0 c99, Bool.not_true, Bool.and_false]; rfl) | (rw [b2_0.mp c110, Bool.and_false]))).symm | exact (bst_lt (by rw [decide_eq_true c90, b2_0.mp c99, b2_n0 c110]; rfl) (its_2 c128) c166).symm | exact (bst_lt (by rw [decide_eq_true c90, b2_0.mp c99, b2_n0 c110]; rfl) (its_3 c128 c147) c166).symm | exact (bst_lt (by rw [decide_eq_true c90, b2_0.mp c99, b2_n0 c110]; rfl) (its_4 c128 c147) c166).symm | exact (bst_ge (its_2 c128) c166).symm | exact (bst_ge (its_3 c128 c147) c166).symm | exact (bst_ge (its_4 c128 c147) c166).symm), rfl, trivial⟩
                exact absurd c159 (by decide)
              refine q_iconst F dX5_judgement_150 hc_3 ?_
              refine q_goto F 155 dX5_judgement_151 rfl ?_
              refine q_istore F dX5_judgement_155 (by decide) rfl ?_
              refine q_iload F dX5_judgement_157 rfl ?_
              refine q_if_eq F 174 dX5_judgement_159 rfl (fun c159 => ?_) (fun c159 => ?_)
              · refine q_iload F dX5_judgement_174 rfl ?_
                refine q_istore F dX5_judgement_176 (by decide) rfl ?_
                refine q_iinc F (nI (j + 1)) dX5_judgement_178 rfl (nI_inc j) (by decide) rfl ?_
                refine q_goto F 74 dX5_judgement_181 rfl ?_
                exact q_to (ih (j + 1) (by omega)) ⟨rfl, rfl, rfl, rfl, rfl, congrArg (fun z => some (Value.int z)) (by first | exact (bst_0 (by first | (rw [decide_eq_false c90]; rfl) | (rw [b2_n0 c99, Bool.not_true, Bool.and_false]; rfl) | (rw [b2_0.mp c110, Bool.and_false]))).symm | exact (bst_lt (by rw [decide_eq_true c90, b2_0.mp c99, b2_n0 c110]; rfl) (its_2 c128) c166).symm | exact (bst_lt (by rw [decide_eq_true c90, b2_0.mp c99, b2_n0 c110]; rfl) (its_3 c128 c147) c166).symm | exact (bst_lt (by rw [decide_eq_true c90, b2_0.mp c99, b2_n0 c110]; rfl) (its_4 c128 c147) c166).symm | exact (bst_ge (its_2 c128) c166).symm | exact (bst_ge (its_3 c128 c147) c166).symm | exact (bst_ge (its_4 c128 c147) c166).symm), rfl, trivial⟩
              exact absurd c159 (by decide)
            refine q_iconst F dX5_judgement_131 hc_2 ?_
            refine q_goto F 155 dX5_judgement_132 rfl ?_
            refine q_istore F dX5_judgement_155 (by decide) rfl ?_
            refine q_iload F dX5_judgement_157 rfl ?_
            refine q_if_eq F 174 dX5_judgement_159 rfl (fun c159 => ?_) (fun c159 => ?_)
            · refine q_iload F dX5_judgement_174 rfl ?_
              refine q_istore F dX5_judgement_176 (by decide) rfl ?_
              refine q_iinc F (nI (j + 1)) dX5_judgement_178 rfl (nI_inc j) (by decide) rfl ?_
              refine q_goto F 74 dX5_judgement_181 rfl ?_
              exact q_to (ih (j + 1) (by omega)) ⟨rfl, rfl, rfl, rfl, rfl, congrArg (fun z => some (Value.int z)) (by first | exact (bst_0 (by first | (rw [decide_eq_false c90]; rfl) | (rw [b2_n0 c99, Bool.not_true, Bool.and_false]; rfl) | (rw [b2_0.mp c110, Bool.and_false]))).symm | exact (bst_lt (by rw [decide_eq_true c90, b2_0.mp c99, b2_n0 c110]; rfl) (its_2 c128) c166).symm | exact (bst_lt (by rw [decide_eq_true c90, b2_0.mp c99, b2_n0 c110]; rfl) (its_3 c128 c147) c166).symm | exact (bst_lt (by rw [decide_eq_true c90, b2_0.mp c99, b2_n0 c110]; rfl) (its_4 c128 c147) c166).symm | exact (bst_ge (its_2 c128) c166).symm | exact (bst_ge (its_3 c128 c147) c166).symm | exact (bst_ge (its_4 c128 c147) c166).symm), rfl, trivial⟩
            exact absurd c159 (by decide)
          refine q_aload_n F 0 dX5_judgement_93 rfl rfl ?_
          refine q_iload F dX5_judgement_94 rfl ?_
          refine q_callV_i F (c_X5_hasEnded hM hi40) gX5_judgement_X5_hasEnded rfl hd_X5_hasEnded ⟨Nat.le_of_ble_eq_true rfl, Nat.le_of_ble_eq_true rfl⟩ hM.1.1 rfl rfl rfl (Nat.le_of_ble_eq_true rfl) dX5_judgement_96 ⟨Nat.le_of_ble_eq_true rfl, Nat.le_of_ble_eq_true rfl⟩ ?_
          refine q_if_ne F 117 dX5_judgement_99 rfl (fun c99 => ?_) (fun c99 => ?_)
          · refine q_iconst F dX5_judgement_117 hc_0 ?_
            refine q_istore F dX5_judgement_118 (by decide) rfl ?_
            refine q_aload_n F 0 dX5_judgement_120 rfl rfl ?_
            refine qg_X5_13 F (hM.1.2.1 5 rfl).1 hM.1.1 dX5_judgement_121 ?_
            refine q_iload F dX5_judgement_124 rfl ?_
            refine q_iald F (hM.1.2.1 5 rfl).2.1 (hM.1.2.1 5 rfl).2.2 rfl hi40 (by decide) dX5_judgement_126 ?_
            refine q_ma 5 (_) rfl hM rfl ?_
            refine q_iload_n F 3 dX5_judgement_127 rfl rfl ?_
            refine q_icmp_ne F 135 dX5_judgement_128 rfl (fun c128 => ?_) (fun c128 => ?_)
            · refine q_aload_n F 0 dX5_judgement_135 rfl rfl ?_
              refine qg_X5_13 F (hM.1.2.1 5 rfl).1 hM.1.1 dX5_judgement_136 ?_
              refine q_iload F dX5_judgement_139 rfl ?_
              refine q_iald F (hM.1.2.1 5 rfl).2.1 (hM.1.2.1 5 rfl).2.2 rfl hi40 (by decide) dX5_judgement_141 ?_
              refine q_ma 5 (_) rfl hM rfl ?_
              refine q_iconst F dX5_judgement_142 hc_3 ?_
              refine q_irem F dX5_judgement_143 (by decide) ?_
              refine q_iload_n F 3 dX5_judgement_144 rfl rfl ?_
              refine q_iconst F dX5_judgement_145 hc_3 ?_
              refine q_irem F dX5_judgement_146 (by decide) ?_
              refine q_icmp_ne F 154 dX5_judgement_147 rfl (fun c147 => ?_) (fun c147 => ?_)
              · refine q_iconst F dX5_judgement_154 hc_4 ?_
                refine q_istore F dX5_judgement_155 (by decide) rfl ?_
                refine q_iload F dX5_judgement_157 rfl ?_
                refine q_if_eq F 174 dX5_judgement_159 rfl (fun c159 => ?_) (fun c159 => ?_)
                · refine q_iload F dX5_judgement_174 rfl ?_
                  refine q_istore F dX5_judgement_176 (by decide) rfl ?_
                  refine q_iinc F (nI (j + 1)) dX5_judgement_178 rfl (nI_inc j) (by decide) rfl ?_
                  refine q_goto F 74 dX5_judgement_181 rfl ?_
                  exact q_to (ih (j + 1) (by omega)) ⟨rfl, rfl, rfl, rfl, rfl, congrArg (fun z => some (Value.int z)) (by first | exact (bst_0 (by first | (rw [decide_eq_false c90]; rfl) | (rw [b2_n0 c99, Bool.not_true, Bool.and_false]; rfl) | (rw [b2_0.mp c110, Bool.and_false]))).symm | exact (bst_lt (by rw [decide_eq_true c90, b2_0.mp c99, b2_n0 c110]; rfl) (its_2 c128) c166).symm | exact (bst_lt (by rw [decide_eq_true c90, b2_0.mp c99, b2_n0 c110]; rfl) (its_3 c128 c147) c166).symm | exact (bst_lt (by rw [decide_eq_true c90, b2_0.mp c99, b2_n0 c110]; rfl) (its_4 c128 c147) c166).symm | exact (bst_ge (its_2 c128) c166).symm | exact (bst_ge (its_3 c128 c147) c166).symm | exact (bst_ge (its_4 c128 c147) c166).symm), rfl, trivial⟩
                exact absurd c159 (by decide)
              refine q_iconst F dX5_judgement_150 hc_3 ?_
              refine q_goto F 155 dX5_judgement_151 rfl ?_
              refine q_istore F dX5_judgement_155 (by decide) rfl ?_
              refine q_iload F dX5_judgement_157 rfl ?_
              refine q_if_eq F 174 dX5_judgement_159 rfl (fun c159 => ?_) (fun c159 => ?_)
              · refine q_iload F dX5_judgement_174 rfl ?_
                refine q_istore F dX5_judgement_176 (by decide) rfl ?_
                refine q_iinc F (nI (j + 1)) dX5_judgement_178 rfl (nI_inc j) (by decide) rfl ?_
                refine q_goto F 74 dX5_judgement_181 rfl ?_
                exact q_to (ih (j + 1) (by omega)) ⟨rfl, rfl, rfl, rfl, rfl, congrArg (fun z => some (Value.int z)) (by first | exact (bst_0 (by first | (rw [decide_eq_false c90]; rfl) | (rw [b2_n0 c99, Bool.not_true, Bool.and_false]; rfl) | (rw [b2_0.mp c110, Bool.and_false]))).symm | exact (bst_lt (by rw [decide_eq_true c90, b2_0.mp c99, b2_n0 c110]; rfl) (its_2 c128) c166).symm | exact (bst_lt (by rw [decide_eq_true c90, b2_0.mp c99, b2_n0 c110]; rfl) (its_3 c128 c147) c166).symm | exact (bst_lt (by rw [decide_eq_true c90, b2_0.mp c99, b2_n0 c110]; rfl) (its_4 c128 c147) c166).symm | exact (bst_ge (its_2 c128) c166).symm | exact (bst_ge (its_3 c128 c147) c166).symm | exact (bst_ge (its_4 c128 c147) c166).symm), rfl, trivial⟩
              exact absurd c159 (by decide)
            refine q_iconst F dX5_judgement_131 hc_2 ?_
            refine q_goto F 155 dX5_judgement_132 rfl ?_
            refine q_istore F dX5_judgement_155 (by decide) rfl ?_
            refine q_iload F dX5_judgement_157 rfl ?_
            refine q_if_eq F 174 dX5_judgement_159 rfl (fun c159 => ?_) (fun c159 => ?_)
            · refine q_iload F dX5_judgement_174 rfl ?_
              refine q_istore F dX5_judgement_176 (by decide) rfl ?_
              refine q_iinc F (nI (j + 1)) dX5_judgement_178 rfl (nI_inc j) (by decide) rfl ?_
              refine q_goto F 74 dX5_judgement_181 rfl ?_
              exact q_to (ih (j + 1) (by omega)) ⟨rfl, rfl, rfl, rfl, rfl, congrArg (fun z => some (Value.int z)) (by first | exact (bst_0 (by first | (rw [decide_eq_false c90]; rfl) | (rw [b2_n0 c99, Bool.not_true, Bool.and_false]; rfl) | (rw [b2_0.mp c110, Bool.and_false]))).symm | exact (bst_lt (by rw [decide_eq_true c90, b2_0.mp c99, b2_n0 c110]; rfl) (its_2 c128) c166).symm | exact (bst_lt (by rw [decide_eq_true c90, b2_0.mp c99, b2_n0 c110]; rfl) (its_3 c128 c147) c166).symm | exact (bst_lt (by rw [decide_eq_true c90, b2_0.mp c99, b2_n0 c110]; rfl) (its_4 c128 c147) c166).symm | exact (bst_ge (its_2 c128) c166).symm | exact (bst_ge (its_3 c128 c147) c166).symm | exact (bst_ge (its_4 c128 c147) c166).symm), rfl, trivial⟩
            exact absurd c159 (by decide)
          refine q_aload_n F 0 dX5_judgement_102 rfl rfl ?_
          refine q_iload F dX5_judgement_103 rfl ?_
          refine q_iload_n F 1 dX5_judgement_105 rfl rfl ?_
          refine q_iload_n F 2 dX5_judgement_106 rfl rfl ?_
          refine q_callV_i F (c_X5_isFor (M := M) hM hi40 h12 hk4) gX5_judgement_X5_isFor rfl hd_X5_isFor ⟨Nat.le_of_ble_eq_true rfl, Nat.le_of_ble_eq_true rfl⟩ hM.1.1 rfl rfl rfl (Nat.le_of_ble_eq_true rfl) dX5_judgement_107 ⟨Nat.le_of_ble_eq_true rfl, Nat.le_of_ble_eq_true rfl⟩ ?_
          refine q_if_eq F 117 dX5_judgement_110 rfl (fun c110 => ?_) (fun c110 => ?_)
          · refine q_iconst F dX5_judgement_117 hc_0 ?_
            refine q_istore F dX5_judgement_118 (by decide) rfl ?_
            refine q_aload_n F 0 dX5_judgement_120 rfl rfl ?_
            refine qg_X5_13 F (hM.1.2.1 5 rfl).1 hM.1.1 dX5_judgement_121 ?_
            refine q_iload F dX5_judgement_124 rfl ?_
            refine q_iald F (hM.1.2.1 5 rfl).2.1 (hM.1.2.1 5 rfl).2.2 rfl hi40 (by decide) dX5_judgement_126 ?_
            refine q_ma 5 (_) rfl hM rfl ?_
            refine q_iload_n F 3 dX5_judgement_127 rfl rfl ?_
            refine q_icmp_ne F 135 dX5_judgement_128 rfl (fun c128 => ?_) (fun c128 => ?_)
            · refine q_aload_n F 0 dX5_judgement_135 rfl rfl ?_
              refine qg_X5_13 F (hM.1.2.1 5 rfl).1 hM.1.1 dX5_judgement_136 ?_
              refine q_iload F dX5_judgement_139 rfl ?_
              refine q_iald F (hM.1.2.1 5 rfl).2.1 (hM.1.2.1 5 rfl).2.2 rfl hi40 (by decide) dX5_judgement_141 ?_
              refine q_ma 5 (_) rfl hM rfl ?_
              refine q_iconst F dX5_judgement_142 hc_3 ?_
              refine q_irem F dX5_judgement_143 (by decide) ?_
              refine q_iload_n F 3 dX5_judgement_144 rfl rfl ?_
              refine q_iconst F dX5_judgement_145 hc_3 ?_
              refine q_irem F dX5_judgement_146 (by decide) ?_
              refine q_icmp_ne F 154 dX5_judgement_147 rfl (fun c147 => ?_) (fun c147 => ?_)
              · refine q_iconst F dX5_judgement_154 hc_4 ?_
                refine q_istore F dX5_judgement_155 (by decide) rfl ?_
                refine q_iload F dX5_judgement_157 rfl ?_
                refine q_if_eq F 174 dX5_judgement_159 rfl (fun c159 => ?_) (fun c159 => ?_)
                · refine q_iload F dX5_judgement_174 rfl ?_
                  refine q_istore F dX5_judgement_176 (by decide) rfl ?_
                  refine q_iinc F (nI (j + 1)) dX5_judgement_178 rfl (nI_inc j) (by decide) rfl ?_
                  refine q_goto F 74 dX5_judgement_181 rfl ?_
                  exact q_to (ih (j + 1) (by omega)) ⟨rfl, rfl, rfl, rfl, rfl, congrArg (fun z => some (Value.int z)) (by first | exact (bst_0 (by first | (rw [decide_eq_false c90]; rfl) | (rw [b2_n0 c99, Bool.not_true, Bool.and_false]; rfl) | (rw [b2_0.mp c110, Bool.and_false]))).symm | exact (bst_lt (by rw [decide_eq_true c90, b2_0.mp c99, b2_n0 c110]; rfl) (its_2 c128) c166).symm | exact (bst_lt (by rw [decide_eq_true c90, b2_0.mp c99, b2_n0 c110]; rfl) (its_3 c128 c147) c166).symm | exact (bst_lt (by rw [decide_eq_true c90, b2_0.mp c99, b2_n0 c110]; rfl) (its_4 c128 c147) c166).symm | exact (bst_ge (its_2 c128) c166).symm | exact (bst_ge (its_3 c128 c147) c166).symm | exact (bst_ge (its_4 c128 c147) c166).symm), rfl, trivial⟩
                exact absurd c159 (by decide)
              refine q_iconst F dX5_judgement_150 hc_3 ?_
              refine q_goto F 155 dX5_judgement_151 rfl ?_
              refine q_istore F dX5_judgement_155 (by decide) rfl ?_
              refine q_iload F dX5_judgement_157 rfl ?_
              refine q_if_eq F 174 dX5_judgement_159 rfl (fun c159 => ?_) (fun c159 => ?_)
              · refine q_iload F dX5_judgement_174 rfl ?_
                refine q_istore F dX5_judgement_176 (by decide) rfl ?_
                refine q_iinc F (nI (j + 1)) dX5_judgement_178 rfl (nI_inc j) (by decide) rfl ?_
                refine q_goto F 74 dX5_judgement_181 rfl ?_
                exact q_to (ih (j + 1) (by omega)) ⟨rfl, rfl, rfl, rfl, rfl, congrArg (fun z => some (Value.int z)) (by first | exact (bst_0 (by first | (rw [decide_eq_false c90]; rfl) | (rw [b2_n0 c99, Bool.not_true, Bool.and_false]; rfl) | (rw [b2_0.mp c110, Bool.and_false]))).symm | exact (bst_lt (by rw [decide_eq_true c90, b2_0.mp c99, b2_n0 c110]; rfl) (its_2 c128) c166).symm | exact (bst_lt (by rw [decide_eq_true c90, b2_0.mp c99, b2_n0 c110]; rfl) (its_3 c128 c147) c166).symm | exact (bst_lt (by rw [decide_eq_true c90, b2_0.mp c99, b2_n0 c110]; rfl) (its_4 c128 c147) c166).symm | exact (bst_ge (its_2 c128) c166).symm | exact (bst_ge (its_3 c128 c147) c166).symm | exact (bst_ge (its_4 c128 c147) c166).symm), rfl, trivial⟩
              exact absurd c159 (by decide)
            refine q_iconst F dX5_judgement_131 hc_2 ?_
            refine q_goto F 155 dX5_judgement_132 rfl ?_
            refine q_istore F dX5_judgement_155 (by decide) rfl ?_
            refine q_iload F dX5_judgement_157 rfl ?_
            refine q_if_eq F 174 dX5_judgement_159 rfl (fun c159 => ?_) (fun c159 => ?_)
            · refine q_iload F dX5_judgement_174 rfl ?_
              refine q_istore F dX5_judgement_176 (by decide) rfl ?_
              refine q_iinc F (nI (j + 1)) dX5_judgement_178 rfl (nI_inc j) (by decide) rfl ?_
              refine q_goto F 74 dX5_judgement_181 rfl ?_
              exact q_to (ih (j + 1) (by omega)) ⟨rfl, rfl, rfl, rfl, rfl, congrArg (fun z => some (Value.int z)) (by first | exact (bst_0 (by first | (rw [decide_eq_false c90]; rfl) | (rw [b2_n0 c99, Bool.not_true, Bool.and_false]; rfl) | (rw [b2_0.mp c110, Bool.and_false]))).symm | exact (bst_lt (by rw [decide_eq_true c90, b2_0.mp c99, b2_n0 c110]; rfl) (its_2 c128) c166).symm | exact (bst_lt (by rw [decide_eq_true c90, b2_0.mp c99, b2_n0 c110]; rfl) (its_3 c128 c147) c166).symm | exact (bst_lt (by rw [decide_eq_true c90, b2_0.mp c99, b2_n0 c110]; rfl) (its_4 c128 c147) c166).symm | exact (bst_ge (its_2 c128) c166).symm | exact (bst_ge (its_3 c128 c147) c166).symm | exact (bst_ge (its_4 c128 c147) c166).symm), rfl, trivial⟩
            exact absurd c159 (by decide)
          refine q_iconst F dX5_judgement_113 hc_1 ?_
          refine q_goto F 118 dX5_judgement_114 rfl ?_
          refine q_istore F dX5_judgement_118 (by decide) rfl ?_
          refine q_aload_n F 0 dX5_judgement_120 rfl rfl ?_
          refine qg_X5_13 F (hM.1.2.1 5 rfl).1 hM.1.1 dX5_judgement_121 ?_
          refine q_iload F dX5_judgement_124 rfl ?_
          refine q_iald F (hM.1.2.1 5 rfl).2.1 (hM.1.2.1 5 rfl).2.2 rfl hi40 (by decide) dX5_judgement_126 ?_
          refine q_ma 5 (_) rfl hM rfl ?_
          refine q_iload_n F 3 dX5_judgement_127 rfl rfl ?_
          refine q_icmp_ne F 135 dX5_judgement_128 rfl (fun c128 => ?_) (fun c128 => ?_)
          · refine q_aload_n F 0 dX5_judgement_135 rfl rfl ?_
            refine qg_X5_13 F (hM.1.2.1 5 rfl).1 hM.1.1 dX5_judgement_136 ?_
            refine q_iload F dX5_judgement_139 rfl ?_
            refine q_iald F (hM.1.2.1 5 rfl).2.1 (hM.1.2.1 5 rfl).2.2 rfl hi40 (by decide) dX5_judgement_141 ?_
            refine q_ma 5 (_) rfl hM rfl ?_
            refine q_iconst F dX5_judgement_142 hc_3 ?_
            refine q_irem F dX5_judgement_143 (by decide) ?_
            refine q_iload_n F 3 dX5_judgement_144 rfl rfl ?_
            refine q_iconst F dX5_judgement_145 hc_3 ?_
            refine q_irem F dX5_judgement_146 (by decide) ?_
            refine q_icmp_ne F 154 dX5_judgement_147 rfl (fun c147 => ?_) (fun c147 => ?_)
            · refine q_iconst F dX5_judgement_154 hc_4 ?_
              refine q_istore F dX5_judgement_155 (by decide) rfl ?_
              refine q_iload F dX5_judgement_157 rfl ?_
              refine q_if_eq F 174 dX5_judgement_159 rfl (fun c159 => ?_) (fun c159 => ?_)
              · exact absurd c159 (by decide)
              refine q_iload F dX5_judgement_162 rfl ?_
              refine q_iload F dX5_judgement_164 rfl ?_
              refine q_icmp_ge F 174 dX5_judgement_166 rfl (fun c166 => ?_) (fun c166 => ?_)
              · refine q_iload F dX5_judgement_174 rfl ?_
                refine q_istore F dX5_judgement_176 (by decide) rfl ?_
                refine q_iinc F (nI (j + 1)) dX5_judgement_178 rfl (nI_inc j) (by decide) rfl ?_
                refine q_goto F 74 dX5_judgement_181 rfl ?_
                exact q_to (ih (j + 1) (by omega)) ⟨rfl, rfl, rfl, rfl, rfl, congrArg (fun z => some (Value.int z)) (by first | exact (bst_0 (by first | (rw [decide_eq_false c90]; rfl) | (rw [b2_n0 c99, Bool.not_true, Bool.and_false]; rfl) | (rw [b2_0.mp c110, Bool.and_false]))).symm | exact (bst_lt (by rw [decide_eq_true c90, b2_0.mp c99, b2_n0 c110]; rfl) (its_2 c128) c166).symm | exact (bst_lt (by rw [decide_eq_true c90, b2_0.mp c99, b2_n0 c110]; rfl) (its_3 c128 c147) c166).symm | exact (bst_lt (by rw [decide_eq_true c90, b2_0.mp c99, b2_n0 c110]; rfl) (its_4 c128 c147) c166).symm | exact (bst_ge (its_2 c128) c166).symm | exact (bst_ge (its_3 c128 c147) c166).symm | exact (bst_ge (its_4 c128 c147) c166).symm), rfl, trivial⟩
              refine q_iload F dX5_judgement_169 rfl ?_
              refine q_goto F 176 dX5_judgement_171 rfl ?_
              refine q_istore F dX5_judgement_176 (by decide) rfl ?_
              refine q_iinc F (nI (j + 1)) dX5_judgement_178 rfl (nI_inc j) (by decide) rfl ?_
              refine q_goto F 74 dX5_judgement_181 rfl ?_
              exact q_to (ih (j + 1) (by omega)) ⟨rfl, rfl, rfl, rfl, rfl, congrArg (fun z => some (Value.int z)) (by first | exact (bst_0 (by first | (rw [decide_eq_false c90]; rfl) | (rw [b2_n0 c99, Bool.not_true, Bool.and_false]; rfl) | (rw [b2_0.mp c110, Bool.and_false]))).symm | exact (bst_lt (by rw [decide_eq_true c90, b2_0.mp c99, b2_n0 c110]; rfl) (its_2 c128) c166).symm | exact (bst_lt (by rw [decide_eq_true c90, b2_0.mp c99, b2_n0 c110]; rfl) (its_3 c128 c147) c166).symm | exact (bst_lt (by rw [decide_eq_true c90, b2_0.mp c99, b2_n0 c110]; rfl) (its_4 c128 c147) c166).symm | exact (bst_ge (its_2 c128) c166).symm | exact (bst_ge (its_3 c128 c147) c166).symm | exact (bst_ge (its_4 c128 c147) c166).symm), rfl, trivial⟩
            refine q_iconst F dX5_judgement_150 hc_3 ?_
            refine q_goto F 155 dX5_judgement_151 rfl ?_
            refine q_istore F dX5_judgement_155 (by decide) rfl ?_
            refine q_iload F dX5_judgement_157 rfl ?_
            refine q_if_eq F 174 dX5_judgement_159 rfl (fun c159 => ?_) (fun c159 => ?_)
            · exact absurd c159 (by decide)
            refine q_iload F dX5_judgement_162 rfl ?_
            refine q_iload F dX5_judgement_164 rfl ?_
            refine q_icmp_ge F 174 dX5_judgement_166 rfl (fun c166 => ?_) (fun c166 => ?_)
            · refine q_iload F dX5_judgement_174 rfl ?_
              refine q_istore F dX5_judgement_176 (by decide) rfl ?_
              refine q_iinc F (nI (j + 1)) dX5_judgement_178 rfl (nI_inc j) (by decide) rfl ?_
              refine q_goto F 74 dX5_judgement_181 rfl ?_
              exact q_to (ih (j + 1) (by omega)) ⟨rfl, rfl, rfl, rfl, rfl, congrArg (fun z => some (Value.int z)) (by first | exact (bst_0 (by first | (rw [decide_eq_false c90]; rfl) | (rw [b2_n0 c99, Bool.not_true, Bool.and_false]; rfl) | (rw [b2_0.mp c110, Bool.and_false]))).symm | exact (bst_lt (by rw [decide_eq_true c90, b2_0.mp c99, b2_n0 c110]; rfl) (its_2 c128) c166).symm | exact (bst_lt (by rw [decide_eq_true c90, b2_0.mp c99, b2_n0 c110]; rfl) (its_3 c128 c147) c166).symm | exact (bst_lt (by rw [decide_eq_true c90, b2_0.mp c99, b2_n0 c110]; rfl) (its_4 c128 c147) c166).symm | exact (bst_ge (its_2 c128) c166).symm | exact (bst_ge (its_3 c128 c147) c166).symm | exact (bst_ge (its_4 c128 c147) c166).symm), rfl, trivial⟩
            refine q_iload F dX5_judgement_169 rfl ?_
            refine q_goto F 176 dX5_judgement_171 rfl ?_
            refine q_istore F dX5_judgement_176 (by decide) rfl ?_
            refine q_iinc F (nI (j + 1)) dX5_judgement_178 rfl (nI_inc j) (by decide) rfl ?_
            refine q_goto F 74 dX5_judgement_181 rfl ?_
            exact q_to (ih (j + 1) (by omega)) ⟨rfl, rfl, rfl, rfl, rfl, congrArg (fun z => some (Value.int z)) (by first | exact (bst_0 (by first | (rw [decide_eq_false c90]; rfl) | (rw [b2_n0 c99, Bool.not_true, Bool.and_false]; rfl) | (rw [b2_0.mp c110, Bool.and_false]))).symm | exact (bst_lt (by rw [decide_eq_true c90, b2_0.mp c99, b2_n0 c110]; rfl) (its_2 c128) c166).symm | exact (bst_lt (by rw [decide_eq_true c90, b2_0.mp c99, b2_n0 c110]; rfl) (its_3 c128 c147) c166).symm | exact (bst_lt (by rw [decide_eq_true c90, b2_0.mp c99, b2_n0 c110]; rfl) (its_4 c128 c147) c166).symm | exact (bst_ge (its_2 c128) c166).symm | exact (bst_ge (its_3 c128 c147) c166).symm | exact (bst_ge (its_4 c128 c147) c166).symm), rfl, trivial⟩
          refine q_iconst F dX5_judgement_131 hc_2 ?_
          refine q_goto F 155 dX5_judgement_132 rfl ?_
          refine q_istore F dX5_judgement_155 (by decide) rfl ?_
          refine q_iload F dX5_judgement_157 rfl ?_
          refine q_if_eq F 174 dX5_judgement_159 rfl (fun c159 => ?_) (fun c159 => ?_)
          · exact absurd c159 (by decide)
          refine q_iload F dX5_judgement_162 rfl ?_
          refine q_iload F dX5_judgement_164 rfl ?_
          refine q_icmp_ge F 174 dX5_judgement_166 rfl (fun c166 => ?_) (fun c166 => ?_)
          · refine q_iload F dX5_judgement_174 rfl ?_
            refine q_istore F dX5_judgement_176 (by decide) rfl ?_
            refine q_iinc F (nI (j + 1)) dX5_judgement_178 rfl (nI_inc j) (by decide) rfl ?_
            refine q_goto F 74 dX5_judgement_181 rfl ?_
            exact q_to (ih (j + 1) (by omega)) ⟨rfl, rfl, rfl, rfl, rfl, congrArg (fun z => some (Value.int z)) (by first | exact (bst_0 (by first | (rw [decide_eq_false c90]; rfl) | (rw [b2_n0 c99, Bool.not_true, Bool.and_false]; rfl) | (rw [b2_0.mp c110, Bool.and_false]))).symm | exact (bst_lt (by rw [decide_eq_true c90, b2_0.mp c99, b2_n0 c110]; rfl) (its_2 c128) c166).symm | exact (bst_lt (by rw [decide_eq_true c90, b2_0.mp c99, b2_n0 c110]; rfl) (its_3 c128 c147) c166).symm | exact (bst_lt (by rw [decide_eq_true c90, b2_0.mp c99, b2_n0 c110]; rfl) (its_4 c128 c147) c166).symm | exact (bst_ge (its_2 c128) c166).symm | exact (bst_ge (its_3 c128 c147) c166).symm | exact (bst_ge (its_4 c128 c147) c166).symm), rfl, trivial⟩
          refine q_iload F dX5_judgement_169 rfl ?_
          refine q_goto F 176 dX5_judgement_171 rfl ?_
          refine q_istore F dX5_judgement_176 (by decide) rfl ?_
          refine q_iinc F (nI (j + 1)) dX5_judgement_178 rfl (nI_inc j) (by decide) rfl ?_
          refine q_goto F 74 dX5_judgement_181 rfl ?_
          exact q_to (ih (j + 1) (by omega)) ⟨rfl, rfl, rfl, rfl, rfl, congrArg (fun z => some (Value.int z)) (by first | exact (bst_0 (by first | (rw [decide_eq_false c90]; rfl) | (rw [b2_n0 c99, Bool.not_true, Bool.and_false]; rfl) | (rw [b2_0.mp c110, Bool.and_false]))).symm | exact (bst_lt (by rw [decide_eq_true c90, b2_0.mp c99, b2_n0 c110]; rfl) (its_2 c128) c166).symm | exact (bst_lt (by rw [decide_eq_true c90, b2_0.mp c99, b2_n0 c110]; rfl) (its_3 c128 c147) c166).symm | exact (bst_lt (by rw [decide_eq_true c90, b2_0.mp c99, b2_n0 c110]; rfl) (its_4 c128 c147) c166).symm | exact (bst_ge (its_2 c128) c166).symm | exact (bst_ge (its_3 c128 c147) c166).symm | exact (bst_ge (its_4 c128 c147) c166).symm), rfl, trivial⟩
      exact q_to (L n 0 (by omega)) ⟨rfl, rfl, rfl, rfl, rfl, rfl, rfl, trivial⟩
    exact absurd c41 (by decide)
  exact absurd c15 (by decide)

set_option maxHeartbeats 4000000 in
set_option maxRecDepth 100000 in
theorem c_X5_judgement_c {l : Launch} {g : hG} {X : va_W} {S : hS} {md : Nat} {ar : Nat → Nat} {sc : Nat → Int32} {M : Nat → Nat → Int32} (hM : mS S md ar sc M) {n : Nat} (hn : sc 4 = nI n) (hn40 : n ≤ 40) (hsz : ∀ i, i < n → ∃ k, k ≤ 4 ∧ M 12 i = nI k) {ns : Nat} (hs : sc 25 = nI ns) (hs20 : ns ≤ 20) {ci : Nat} (hci : ci < 20) {name port key : Int32} : hMet l yX5_judgement wsX5_judgement rm_X5_judgement g X S [.ref md, .int name, .int port, .int key, .int (nI ci)] (pI (jg (sc 1) M n ns name port key (some ci)) S) := by
  refine h_start (maxL := 9) (ret := (some .int)) (by decide) rfl (Nat.le_of_ble_eq_true rfl) ?_
  intro p e s m args below meth c F hr hinit
  have hm := mdF.rf S
  refine q_aload_n F 0 dX5_judgement_0 rfl rfl ?_
  refine q_iconst F dX5_judgement_1 hc_1 ?_
  refine q_iload_n F 3 dX5_judgement_2 rfl rfl ?_
  refine q_iconst F dX5_judgement_3 hc_1 ?_
  refine q_iload_n F 1 dX5_judgement_4 rfl rfl ?_
  refine q_iload_n F 2 dX5_judgement_5 rfl rfl ?_
  refine q_callV_i F (c_X5_has (isAny := true) hM hn hn40 hsz) gX5_judgement_X5_has rfl hd_X5_has ⟨Nat.le_of_ble_eq_true rfl, Nat.le_of_ble_eq_true rfl⟩ hM.1.1 rfl rfl rfl (Nat.le_of_ble_eq_true rfl) dX5_judgement_6 ⟨Nat.le_of_ble_eq_true rfl, Nat.le_of_ble_eq_true rfl⟩ ?_
  refine q_if_ne F 36 dX5_judgement_9 rfl (fun c9 => ?_) (fun c9 => ?_)
  · refine q_iconst F dX5_judgement_36 hc_0 ?_
    exact (q_reti F hr rfl dX5_judgement_37 (Nat.le_of_ble_eq_true rfl) (Nat.le_of_ble_eq_true rfl) ⟨by first | rw [jg_c0 (Or.inl (b2_n0 c9))] | rw [jg_c0 (Or.inr (b2_n0 c33))], rfl⟩)
  refine q_iload F dX5_judgement_12 rfl ?_
  refine q_iconst F dX5_judgement_14 hc_m1 ?_
  refine q_icmp_eq F 38 dX5_judgement_15 rfl (fun c15 => ?_) (fun c15 => ?_)
  · exact absurd c15 (nI_nm1 (by omega))
  refine q_aload_n F 0 dX5_judgement_18 rfl rfl ?_
  refine q_iconst F dX5_judgement_19 hc_1 ?_
  refine q_aload_n F 0 dX5_judgement_20 rfl rfl ?_
  refine qg_X5_51 F (hM.1.2.1 18 rfl).1 hM.1.1 dX5_judgement_21 ?_
  refine q_iload F dX5_judgement_24 rfl ?_
  refine q_iald F (hM.1.2.1 18 rfl).2.1 (hM.1.2.1 18 rfl).2.2 rfl hci (by decide) dX5_judgement_26 ?_
  refine q_ma 18 (_) rfl hM rfl ?_
  refine q_iconst F dX5_judgement_27 hc_1 ?_
  refine q_iload_n F 1 dX5_judgement_28 rfl rfl ?_
  refine q_iload_n F 2 dX5_judgement_29 rfl rfl ?_
  refine q_callV_i F (c_X5_has (isAny := true) hM hn hn40 hsz) gX5_judgement_X5_has rfl hd_X5_has ⟨Nat.le_of_ble_eq_true rfl, Nat.le_of_ble_eq_true rfl⟩ hM.1.1 rfl rfl rfl (Nat.le_of_ble_eq_true rfl) dX5_judgement_30 ⟨Nat.le_of_ble_eq_true rfl, Nat.le_of_ble_eq_true rfl⟩ ?_
  refine q_if_eq F 38 dX5_judgement_33 rfl (fun c33 => ?_) (fun c33 => ?_)
  · refine q_iload F dX5_judgement_38 rfl ?_
    refine q_iconst F dX5_judgement_40 hc_m1 ?_
    refine q_icmp_eq F 68 dX5_judgement_41 rfl (fun c41 => ?_) (fun c41 => ?_)
    · exact absurd c41 (nI_nm1 (by omega))
    refine q_aload_n F 0 dX5_judgement_44 rfl rfl ?_
    refine qg_X5_54 F (hM.1.2.1 19 rfl).1 hM.1.1 dX5_judgement_45 ?_
    refine q_iload F dX5_judgement_48 rfl ?_
    refine q_iald F (hM.1.2.1 19 rfl).2.1 (hM.1.2.1 19 rfl).2.2 rfl hci (by decide) dX5_judgement_50 ?_
    refine q_ma 19 (_) rfl hM rfl ?_
    refine q_iload_n F 3 dX5_judgement_51 rfl rfl ?_
    refine q_icmp_ne F 68 dX5_judgement_52 rfl (fun c52 => ?_) (fun c52 => ?_)
    · refine q_iconst F dX5_judgement_68 hc_5 ?_
      refine q_istore F dX5_judgement_69 (by decide) rfl ?_
      refine q_iconst F dX5_judgement_71 hc_0 ?_
      refine q_istore F dX5_judgement_72 (by decide) rfl ?_
      have hJ : (jg (sc 1) M n ns name port key (some ci)) = bst (sc 1) M name port key n := by exact jg_c2 (b2_0.mp c9) (b2_0.mp c33) (by first | exact (fun z => c52 z.1) | exact (fun z => by rw [z.2] at c63; exact absurd c63 (by decide)))
      have L : ∀ (r j : Nat), j + r = n → V p l e rm_X5_judgement s m args below meth c 9 g X (MQ below (hQ g X (pI (jg (sc 1) M n ns name port key (some ci)) S)) args s rm_X5_judgement.cells rm_X5_judgement.slots (hA g)) S 0 0 [(0, .ref md), (1, .int name), (2, .int port), (3, .int key), (4, .int (nI ci)), (5, .int (bst (sc 1) M name port key j)), (6, .int (nI j))] 74 [] := by
        intro r
        induction r with
        | zero =>
          intro j hjr
          have hjk : j = n := by omega
          refine q_iload F dX5_judgement_74 rfl ?_
          refine q_aload_n F 0 dX5_judgement_76 rfl rfl ?_
          refine qg_X5_91 F hM.1.1 dX5_judgement_77 ?_
          refine q_mg 4 (nI n) rfl hM hn ?_
          refine q_icmp_ge F 184 dX5_judgement_80 rfl (fun c80 => ?_) (fun c80 => ?_)
          · refine q_iload F dX5_judgement_184 rfl ?_
            exact (q_reti F hr rfl dX5_judgement_186 (Nat.le_of_ble_eq_true rfl) (Nat.le_of_ble_eq_true rfl) ⟨by rw [hJ, hjk], rfl⟩)
          exact absurd c80 (gT rfl rfl (show n ≤ j by omega) (by omega))
        | succ r ih =>
          intro j hjr
          have hj : j < n := by omega
          have hi40 : j < 40 := by omega
          obtain ⟨k, hk4, h12⟩ := hsz j hj
          refine q_iload F dX5_judgement_74 rfl ?_
          refine q_aload_n F 0 dX5_judgement_76 rfl rfl ?_
          refine qg_X5_91 F hM.1.1 dX5_judgement_77 ?_
          refine q_mg 4 (nI n) rfl hM hn ?_
          refine q_icmp_ge F 184 dX5_judgement_80 rfl (fun c80 => ?_) (fun c80 => ?_)
          · exact absurd c80 (gF rfl rfl hj (by omega))
          refine q_aload_n F 0 dX5_judgement_83 rfl rfl ?_
          refine qg_X5_17 F (hM.1.2.1 6 rfl).1 hM.1.1 dX5_judgement_84 ?_
          refine q_iload F dX5_judgement_87 rfl ?_
          refine q_iald F (hM.1.2.1 6 rfl).2.1 (hM.1.2.1 6 rfl).2.2 rfl hi40 (by decide) dX5_judgement_89 ?_
          refine q_ma 6 (_) rfl hM rfl ?_
          refine q_if_ne F 117 dX5_judgement_90 rfl (fun c90 => ?_) (fun c90 => ?_)
          · refine q_iconst F dX5_judgement_117 hc_0 ?_
            refine q_istore F dX5_judgement_118 (by decide) rfl ?_
            refine q_aload_n F 0 dX5_judgement_120 rfl rfl ?_
            refine qg_X5_13 F (hM.1.2.1 5 rfl).1 hM.1.1 dX5_judgement_121 ?_
            refine q_iload F dX5_judgement_124 rfl ?_
            refine q_iald F (hM.1.2.1 5 rfl).2.1 (hM.1.2.1 5 rfl).2.2 rfl hi40 (by decide) dX5_judgement_126 ?_
            refine q_ma 5 (_) rfl hM rfl ?_
            refine q_iload_n F 3 dX5_judgement_127 rfl rfl ?_
            refine q_icmp_ne F 135 dX5_judgement_128 rfl (fun c128 => ?_) (fun c128 => ?_)
            · refine q_aload_n F 0 dX5_judgement_135 rfl rfl ?_
              refine qg_X5_13 F (hM.1.2.1 5 rfl).1 hM.1.1 dX5_judgement_136 ?_
              refine q_iload F dX5_judgement_139 rfl ?_
              refine q_iald F (hM.1.2.1 5 rfl).2.1 (hM.1.2.1 5 rfl).2.2 rfl hi40 (by decide) dX5_judgement_141 ?_
              refine q_ma 5 (_) rfl hM rfl ?_
              refine q_iconst F dX5_judgement_142 hc_3 ?_
              refine q_irem F dX5_judgement_143 (by decide) ?_
              refine q_iload_n F 3 dX5_judgement_144 rfl rfl ?_
              refine q_iconst F dX5_judgement_145 hc_3 ?_
              refine q_irem F dX5_judgement_146 (by decide) ?_
              refine q_icmp_ne F 154 dX5_judgement_147 rfl (fun c147 => ?_) (fun c147 => ?_)
              · refine q_iconst F dX5_judgement_154 hc_4 ?_
                refine q_istore F dX5_judgement_155 (by decide) rfl ?_
                refine q_iload F dX5_judgement_157 rfl ?_
                refine q_if_eq F 174 dX5_judgement_159 rfl (fun c159 => ?_) (fun c159 => ?_)
                · refine q_iload F dX5_judgement_174 rfl ?_
                  refine q_istore F dX5_judgement_176 (by decide) rfl ?_
                  refine q_iinc F (nI (j + 1)) dX5_judgement_178 rfl (nI_inc j) (by decide) rfl ?_
                  refine q_goto F 74 dX5_judgement_181 rfl ?_
                  exact q_to (ih (j + 1) (by omega)) ⟨rfl, rfl, rfl, rfl, rfl, congrArg (fun z => some (Value.int z)) (by first | exact (bst_0 (by first | (rw [decide_eq_false c90]; rfl) | (rw [b2_n0 c99, Bool.not_true, Bool.and_false]; rfl) | (rw [b2_0.mp c110, Bool.and_false]))).symm | exact (bst_lt (by rw [decide_eq_true c90, b2_0.mp c99, b2_n0 c110]; rfl) (its_2 c128) c166).symm | exact (bst_lt (by rw [decide_eq_true c90, b2_0.mp c99, b2_n0 c110]; rfl) (its_3 c128 c147) c166).symm | exact (bst_lt (by rw [decide_eq_true c90, b2_0.mp c99, b2_n0 c110]; rfl) (its_4 c128 c147) c166).symm | exact (bst_ge (its_2 c128) c166).symm | exact (bst_ge (its_3 c128 c147) c166).symm | exact (bst_ge (its_4 c128 c147) c166).symm), rfl, trivial⟩
                exact absurd c159 (by decide)
              refine q_iconst F dX5_judgement_150 hc_3 ?_
              refine q_goto F 155 dX5_judgement_151 rfl ?_
              refine q_istore F dX5_judgement_155 (by decide) rfl ?_
              refine q_iload F dX5_judgement_157 rfl ?_
              refine q_if_eq F 174 dX5_judgement_159 rfl (fun c159 => ?_) (fun c159 => ?_)
              · refine q_iload F dX5_judgement_174 rfl ?_
                refine q_istore F dX5_judgement_176 (by decide) rfl ?_
                refine q_iinc F (nI (j + 1)) dX5_judgement_178 rfl (nI_inc j) (by decide) rfl ?_
                refine q_goto F 74 dX5_judgement_181 rfl ?_
                exact q_to (ih (j + 1) (by omega)) ⟨rfl, rfl, rfl, rfl, rfl, congrArg (fun z => some (Value.int z)) (by first | exact (bst_0 (by first | (rw [decide_eq_false c90]; rfl) | (rw [b2_n0 c99, Bool.not_true, Bool.and_false]; rfl) | (rw [b2_0.mp c110, Bool.and_false]))).symm | exact (bst_lt (by rw [decide_eq_true c90, b2_0.mp c99, b2_n0 c110]; rfl) (its_2 c128) c166).symm | exact (bst_lt (by rw [decide_eq_true c90, b2_0.mp c99, b2_n0 c110]; rfl) (its_3 c128 c147) c166).symm | exact (bst_lt (by rw [decide_eq_true c90, b2_0.mp c99, b2_n0 c110]; rfl) (its_4 c128 c147) c166).symm | exact (bst_ge (its_2 c128) c166).symm | exact (bst_ge (its_3 c128 c147) c166).symm | exact (bst_ge (its_4 c128 c147) c166).symm), rfl, trivial⟩
              exact absurd c159 (by decide)
            refine q_iconst F dX5_judgement_131 hc_2 ?_
            refine q_goto F 155 dX5_judgement_132 rfl ?_
            refine q_istore F dX5_judgement_155 (by decide) rfl ?_
            refine q_iload F dX5_judgement_157 rfl ?_
            refine q_if_eq F 174 dX5_judgement_159 rfl (fun c159 => ?_) (fun c159 => ?_)
            · refine q_iload F dX5_judgement_174 rfl ?_
              refine q_istore F dX5_judgement_176 (by decide) rfl ?_
              refine q_iinc F (nI (j + 1)) dX5_judgement_178 rfl (nI_inc j) (by decide) rfl ?_
              refine q_goto F 74 dX5_judgement_181 rfl ?_
              exact q_to (ih (j + 1) (by omega)) ⟨rfl, rfl, rfl, rfl, rfl, congrArg (fun z => some (Value.int z)) (by first | exact (bst_0 (by first | (rw [decide_eq_false c90]; rfl) | (rw [b2_n0 c99, Bool.not_true, Bool.and_false]; rfl) | (rw [b2_0.mp c110, Bool.and_false]))).symm | exact (bst_lt (by rw [decide_eq_true c90, b2_0.mp c99, b2_n0 c110]; rfl) (its_2 c128) c166).symm | exact (bst_lt (by rw [decide_eq_true c90, b2_0.mp c99, b2_n0 c110]; rfl) (its_3 c128 c147) c166).symm | exact (bst_lt (by rw [decide_eq_true c90, b2_0.mp c99, b2_n0 c110]; rfl) (its_4 c128 c147) c166).symm | exact (bst_ge (its_2 c128) c166).symm | exact (bst_ge (its_3 c128 c147) c166).symm | exact (bst_ge (its_4 c128 c147) c166).symm), rfl, trivial⟩
            exact absurd c159 (by decide)
          refine q_aload_n F 0 dX5_judgement_93 rfl rfl ?_
          refine q_iload F dX5_judgement_94 rfl ?_
          refine q_callV_i F (c_X5_hasEnded hM hi40) gX5_judgement_X5_hasEnded rfl hd_X5_hasEnded ⟨Nat.le_of_ble_eq_true rfl, Nat.le_of_ble_eq_true rfl⟩ hM.1.1 rfl rfl rfl (Nat.le_of_ble_eq_true rfl) dX5_judgement_96 ⟨Nat.le_of_ble_eq_true rfl, Nat.le_of_ble_eq_true rfl⟩ ?_
          refine q_if_ne F 117 dX5_judgement_99 rfl (fun c99 => ?_) (fun c99 => ?_)
          · refine q_iconst F dX5_judgement_117 hc_0 ?_
            refine q_istore F dX5_judgement_118 (by decide) rfl ?_
            refine q_aload_n F 0 dX5_judgement_120 rfl rfl ?_
            refine qg_X5_13 F (hM.1.2.1 5 rfl).1 hM.1.1 dX5_judgement_121 ?_
            refine q_iload F dX5_judgement_124 rfl ?_
            refine q_iald F (hM.1.2.1 5 rfl).2.1 (hM.1.2.1 5 rfl).2.2 rfl hi40 (by decide) dX5_judgement_126 ?_
            refine q_ma 5 (_) rfl hM rfl ?_
            refine q_iload_n F 3 dX5_judgement_127 rfl rfl ?_
            refine q_icmp_ne F 135 dX5_judgement_128 rfl (fun c128 => ?_) (fun c128 => ?_)
            · refine q_aload_n F 0 dX5_judgement_135 rfl rfl ?_
              refine qg_X5_13 F (hM.1.2.1 5 rfl).1 hM.1.1 dX5_judgement_136 ?_
              refine q_iload F dX5_judgement_139 rfl ?_
              refine q_iald F (hM.1.2.1 5 rfl).2.1 (hM.1.2.1 5 rfl).2.2 rfl hi40 (by decide) dX5_judgement_141 ?_
              refine q_ma 5 (_) rfl hM rfl ?_
              refine q_iconst F dX5_judgement_142 hc_3 ?_
              refine q_irem F dX5_judgement_143 (by decide) ?_
              refine q_iload_n F 3 dX5_judgement_144 rfl rfl ?_
              refine q_iconst F dX5_judgement_145 hc_3 ?_
              refine q_irem F dX5_judgement_146 (by decide) ?_
              refine q_icmp_ne F 154 dX5_judgement_147 rfl (fun c147 => ?_) (fun c147 => ?_)
              · refine q_iconst F dX5_judgement_154 hc_4 ?_
                refine q_istore F dX5_judgement_155 (by decide) rfl ?_
                refine q_iload F dX5_judgement_157 rfl ?_
                refine q_if_eq F 174 dX5_judgement_159 rfl (fun c159 => ?_) (fun c159 => ?_)
                · refine q_iload F dX5_judgement_174 rfl ?_
                  refine q_istore F dX5_judgement_176 (by decide) rfl ?_
                  refine q_iinc F (nI (j + 1)) dX5_judgement_178 rfl (nI_inc j) (by decide) rfl ?_
                  refine q_goto F 74 dX5_judgement_181 rfl ?_
                  exact q_to (ih (j + 1) (by omega)) ⟨rfl, rfl, rfl, rfl, rfl, congrArg (fun z => some (Value.int z)) (by first | exact (bst_0 (by first | (rw [decide_eq_false c90]; rfl) | (rw [b2_n0 c99, Bool.not_true, Bool.and_false]; rfl) | (rw [b2_0.mp c110, Bool.and_false]))).symm | exact (bst_lt (by rw [decide_eq_true c90, b2_0.mp c99, b2_n0 c110]; rfl) (its_2 c128) c166).symm | exact (bst_lt (by rw [decide_eq_true c90, b2_0.mp c99, b2_n0 c110]; rfl) (its_3 c128 c147) c166).symm | exact (bst_lt (by rw [decide_eq_true c90, b2_0.mp c99, b2_n0 c110]; rfl) (its_4 c128 c147) c166).symm | exact (bst_ge (its_2 c128) c166).symm | exact (bst_ge (its_3 c128 c147) c166).symm | exact (bst_ge (its_4 c128 c147) c166).symm), rfl, trivial⟩
                exact absurd c159 (by decide)
              refine q_iconst F dX5_judgement_150 hc_3 ?_
              refine q_goto F 155 dX5_judgement_151 rfl ?_
              refine q_istore F dX5_judgement_155 (by decide) rfl ?_
              refine q_iload F dX5_judgement_157 rfl ?_
              refine q_if_eq F 174 dX5_judgement_159 rfl (fun c159 => ?_) (fun c159 => ?_)
              · refine q_iload F dX5_judgement_174 rfl ?_
                refine q_istore F dX5_judgement_176 (by decide) rfl ?_
                refine q_iinc F (nI (j + 1)) dX5_judgement_178 rfl (nI_inc j) (by decide) rfl ?_
                refine q_goto F 74 dX5_judgement_181 rfl ?_
                exact q_to (ih (j + 1) (by omega)) ⟨rfl, rfl, rfl, rfl, rfl, congrArg (fun z => some (Value.int z)) (by first | exact (bst_0 (by first | (rw [decide_eq_false c90]; rfl) | (rw [b2_n0 c99, Bool.not_true, Bool.and_false]; rfl) | (rw [b2_0.mp c110, Bool.and_false]))).symm | exact (bst_lt (by rw [decide_eq_true c90, b2_0.mp c99, b2_n0 c110]; rfl) (its_2 c128) c166).symm | exact (bst_lt (by rw [decide_eq_true c90, b2_0.mp c99, b2_n0 c110]; rfl) (its_3 c128 c147) c166).symm | exact (bst_lt (by rw [decide_eq_true c90, b2_0.mp c99, b2_n0 c110]; rfl) (its_4 c128 c147) c166).symm | exact (bst_ge (its_2 c128) c166).symm | exact (bst_ge (its_3 c128 c147) c166).symm | exact (bst_ge (its_4 c128 c147) c166).symm), rfl, trivial⟩
              exact absurd c159 (by decide)
            refine q_iconst F dX5_judgement_131 hc_2 ?_
            refine q_goto F 155 dX5_judgement_132 rfl ?_
            refine q_istore F dX5_judgement_155 (by decide) rfl ?_
            refine q_iload F dX5_judgement_157 rfl ?_
            refine q_if_eq F 174 dX5_judgement_159 rfl (fun c159 => ?_) (fun c159 => ?_)
            · refine q_iload F dX5_judgement_174 rfl ?_
              refine q_istore F dX5_judgement_176 (by decide) rfl ?_
              refine q_iinc F (nI (j + 1)) dX5_judgement_178 rfl (nI_inc j) (by decide) rfl ?_
              refine q_goto F 74 dX5_judgement_181 rfl ?_
              exact q_to (ih (j + 1) (by omega)) ⟨rfl, rfl, rfl, rfl, rfl, congrArg (fun z => some (Value.int z)) (by first | exact (bst_0 (by first | (rw [decide_eq_false c90]; rfl) | (rw [b2_n0 c99, Bool.not_true, Bool.and_false]; rfl) | (rw [b2_0.mp c110, Bool.and_false]))).symm | exact (bst_lt (by rw [decide_eq_true c90, b2_0.mp c99, b2_n0 c110]; rfl) (its_2 c128) c166).symm | exact (bst_lt (by rw [decide_eq_true c90, b2_0.mp c99, b2_n0 c110]; rfl) (its_3 c128 c147) c166).symm | exact (bst_lt (by rw [decide_eq_true c90, b2_0.mp c99, b2_n0 c110]; rfl) (its_4 c128 c147) c166).symm | exact (bst_ge (its_2 c128) c166).symm | exact (bst_ge (its_3 c128 c147) c166).symm | exact (bst_ge (its_4 c128 c147) c166).symm), rfl, trivial⟩
            exact absurd c159 (by decide)
          refine q_aload_n F 0 dX5_judgement_102 rfl rfl ?_
          refine q_iload F dX5_judgement_103 rfl ?_
          refine q_iload_n F 1 dX5_judgement_105 rfl rfl ?_
          refine q_iload_n F 2 dX5_judgement_106 rfl rfl ?_
          refine q_callV_i F (c_X5_isFor (M := M) hM hi40 h12 hk4) gX5_judgement_X5_isFor rfl hd_X5_isFor ⟨Nat.le_of_ble_eq_true rfl, Nat.le_of_ble_eq_true rfl⟩ hM.1.1 rfl rfl rfl (Nat.le_of_ble_eq_true rfl) dX5_judgement_107 ⟨Nat.le_of_ble_eq_true rfl, Nat.le_of_ble_eq_true rfl⟩ ?_
          refine q_if_eq F 117 dX5_judgement_110 rfl (fun c110 => ?_) (fun c110 => ?_)
          · refine q_iconst F dX5_judgement_117 hc_0 ?_
            refine q_istore F dX5_judgement_118 (by decide) rfl ?_
            refine q_aload_n F 0 dX5_judgement_120 rfl rfl ?_
            refine qg_X5_13 F (hM.1.2.1 5 rfl).1 hM.1.1 dX5_judgement_121 ?_
            refine q_iload F dX5_judgement_124 rfl ?_
            refine q_iald F (hM.1.2.1 5 rfl).2.1 (hM.1.2.1 5 rfl).2.2 rfl hi40 (by decide) dX5_judgement_126 ?_
            refine q_ma 5 (_) rfl hM rfl ?_
            refine q_iload_n F 3 dX5_judgement_127 rfl rfl ?_
            refine q_icmp_ne F 135 dX5_judgement_128 rfl (fun c128 => ?_) (fun c128 => ?_)
            · refine q_aload_n F 0 dX5_judgement_135 rfl rfl ?_
              refine qg_X5_13 F (hM.1.2.1 5 rfl).1 hM.1.1 dX5_judgement_136 ?_
              refine q_iload F dX5_judgement_139 rfl ?_
              refine q_iald F (hM.1.2.1 5 rfl).2.1 (hM.1.2.1 5 rfl).2.2 rfl hi40 (by decide) dX5_judgement_141 ?_
              refine q_ma 5 (_) rfl hM rfl ?_
              refine q_iconst F dX5_judgement_142 hc_3 ?_
              refine q_irem F dX5_judgement_143 (by decide) ?_
              refine q_iload_n F 3 dX5_judgement_144 rfl rfl ?_
              refine q_iconst F dX5_judgement_145 hc_3 ?_
              refine q_irem F dX5_judgement_146 (by decide) ?_
              refine q_icmp_ne F 154 dX5_judgement_147 rfl (fun c147 => ?_) (fun c147 => ?_)
              · refine q_iconst F dX5_judgement_154 hc_4 ?_
                refine q_istore F dX5_judgement_155 (by decide) rfl ?_
                refine q_iload F dX5_judgement_157 rfl ?_
                refine q_if_eq F 174 dX5_judgement_159 rfl (fun c159 => ?_) (fun c159 => ?_)
                · refine q_iload F dX5_judgement_174 rfl ?_
                  refine q_istore F dX5_judgement_176 (by decide) rfl ?_
                  refine q_iinc F (nI (j + 1)) dX5_judgement_178 rfl (nI_inc j) (by decide) rfl ?_
                  refine q_goto F 74 dX5_judgement_181 rfl ?_
                  exact q_to (ih (j + 1) (by omega)) ⟨rfl, rfl, rfl, rfl, rfl, congrArg (fun z => some (Value.int z)) (by first | exact (bst_0 (by first | (rw [decide_eq_false c90]; rfl) | (rw [b2_n0 c99, Bool.not_true, Bool.and_false]; rfl) | (rw [b2_0.mp c110, Bool.and_false]))).symm | exact (bst_lt (by rw [decide_eq_true c90, b2_0.mp c99, b2_n0 c110]; rfl) (its_2 c128) c166).symm | exact (bst_lt (by rw [decide_eq_true c90, b2_0.mp c99, b2_n0 c110]; rfl) (its_3 c128 c147) c166).symm | exact (bst_lt (by rw [decide_eq_true c90, b2_0.mp c99, b2_n0 c110]; rfl) (its_4 c128 c147) c166).symm | exact (bst_ge (its_2 c128) c166).symm | exact (bst_ge (its_3 c128 c147) c166).symm | exact (bst_ge (its_4 c128 c147) c166).symm), rfl, trivial⟩
                exact absurd c159 (by decide)
              refine q_iconst F dX5_judgement_150 hc_3 ?_
              refine q_goto F 155 dX5_judgement_151 rfl ?_
              refine q_istore F dX5_judgement_155 (by decide) rfl ?_
              refine q_iload F dX5_judgement_157 rfl ?_
              refine q_if_eq F 174 dX5_judgement_159 rfl (fun c159 => ?_) (fun c159 => ?_)
              · refine q_iload F dX5_judgement_174 rfl ?_
                refine q_istore F dX5_judgement_176 (by decide) rfl ?_
                refine q_iinc F (nI (j + 1)) dX5_judgement_178 rfl (nI_inc j) (by decide) rfl ?_
                refine q_goto F 74 dX5_judgement_181 rfl ?_
                exact q_to (ih (j + 1) (by omega)) ⟨rfl, rfl, rfl, rfl, rfl, congrArg (fun z => some (Value.int z)) (by first | exact (bst_0 (by first | (rw [decide_eq_false c90]; rfl) | (rw [b2_n0 c99, Bool.not_true, Bool.and_false]; rfl) | (rw [b2_0.mp c110, Bool.and_false]))).symm | exact (bst_lt (by rw [decide_eq_true c90, b2_0.mp c99, b2_n0 c110]; rfl) (its_2 c128) c166).symm | exact (bst_lt (by rw [decide_eq_true c90, b2_0.mp c99, b2_n0 c110]; rfl) (its_3 c128 c147) c166).symm | exact (bst_lt (by rw [decide_eq_true c90, b2_0.mp c99, b2_n0 c110]; rfl) (its_4 c128 c147) c166).symm | exact (bst_ge (its_2 c128) c166).symm | exact (bst_ge (its_3 c128 c147) c166).symm | exact (bst_ge (its_4 c128 c147) c166).symm), rfl, trivial⟩
              exact absurd c159 (by decide)
            refine q_iconst F dX5_judgement_131 hc_2 ?_
            refine q_goto F 155 dX5_judgement_132 rfl ?_
            refine q_istore F dX5_judgement_155 (by decide) rfl ?_
            refine q_iload F dX5_judgement_157 rfl ?_
            refine q_if_eq F 174 dX5_judgement_159 rfl (fun c159 => ?_) (fun c159 => ?_)
            · refine q_iload F dX5_judgement_174 rfl ?_
              refine q_istore F dX5_judgement_176 (by decide) rfl ?_
              refine q_iinc F (nI (j + 1)) dX5_judgement_178 rfl (nI_inc j) (by decide) rfl ?_
              refine q_goto F 74 dX5_judgement_181 rfl ?_
              exact q_to (ih (j + 1) (by omega)) ⟨rfl, rfl, rfl, rfl, rfl, congrArg (fun z => some (Value.int z)) (by first | exact (bst_0 (by first | (rw [decide_eq_false c90]; rfl) | (rw [b2_n0 c99, Bool.not_true, Bool.and_false]; rfl) | (rw [b2_0.mp c110, Bool.and_false]))).symm | exact (bst_lt (by rw [decide_eq_true c90, b2_0.mp c99, b2_n0 c110]; rfl) (its_2 c128) c166).symm | exact (bst_lt (by rw [decide_eq_true c90, b2_0.mp c99, b2_n0 c110]; rfl) (its_3 c128 c147) c166).symm | exact (bst_lt (by rw [decide_eq_true c90, b2_0.mp c99, b2_n0 c110]; rfl) (its_4 c128 c147) c166).symm | exact (bst_ge (its_2 c128) c166).symm | exact (bst_ge (its_3 c128 c147) c166).symm | exact (bst_ge (its_4 c128 c147) c166).symm), rfl, trivial⟩
            exact absurd c159 (by decide)
          refine q_iconst F dX5_judgement_113 hc_1 ?_
          refine q_goto F 118 dX5_judgement_114 rfl ?_
          refine q_istore F dX5_judgement_118 (by decide) rfl ?_
          refine q_aload_n F 0 dX5_judgement_120 rfl rfl ?_
          refine qg_X5_13 F (hM.1.2.1 5 rfl).1 hM.1.1 dX5_judgement_121 ?_
          refine q_iload F dX5_judgement_124 rfl ?_
          refine q_iald F (hM.1.2.1 5 rfl).2.1 (hM.1.2.1 5 rfl).2.2 rfl hi40 (by decide) dX5_judgement_126 ?_
          refine q_ma 5 (_) rfl hM rfl ?_
          refine q_iload_n F 3 dX5_judgement_127 rfl rfl ?_
          refine q_icmp_ne F 135 dX5_judgement_128 rfl (fun c128 => ?_) (fun c128 => ?_)
          · refine q_aload_n F 0 dX5_judgement_135 rfl rfl ?_
            refine qg_X5_13 F (hM.1.2.1 5 rfl).1 hM.1.1 dX5_judgement_136 ?_
            refine q_iload F dX5_judgement_139 rfl ?_
            refine q_iald F (hM.1.2.1 5 rfl).2.1 (hM.1.2.1 5 rfl).2.2 rfl hi40 (by decide) dX5_judgement_141 ?_
            refine q_ma 5 (_) rfl hM rfl ?_
            refine q_iconst F dX5_judgement_142 hc_3 ?_
            refine q_irem F dX5_judgement_143 (by decide) ?_
            refine q_iload_n F 3 dX5_judgement_144 rfl rfl ?_
            refine q_iconst F dX5_judgement_145 hc_3 ?_
            refine q_irem F dX5_judgement_146 (by decide) ?_
            refine q_icmp_ne F 154 dX5_judgement_147 rfl (fun c147 => ?_) (fun c147 => ?_)
            · refine q_iconst F dX5_judgement_154 hc_4 ?_
              refine q_istore F dX5_judgement_155 (by decide) rfl ?_
              refine q_iload F dX5_judgement_157 rfl ?_
              refine q_if_eq F 174 dX5_judgement_159 rfl (fun c159 => ?_) (fun c159 => ?_)
              · exact absurd c159 (by decide)
              refine q_iload F dX5_judgement_162 rfl ?_
              refine q_iload F dX5_judgement_164 rfl ?_
              refine q_icmp_ge F 174 dX5_judgement_166 rfl (fun c166 => ?_) (fun c166 => ?_)
              · refine q_iload F dX5_judgement_174 rfl ?_
                refine q_istore F dX5_judgement_176 (by decide) rfl ?_
                refine q_iinc F (nI (j + 1)) dX5_judgement_178 rfl (nI_inc j) (by decide) rfl ?_
                refine q_goto F 74 dX5_judgement_181 rfl ?_
                exact q_to (ih (j + 1) (by omega)) ⟨rfl, rfl, rfl, rfl, rfl, congrArg (fun z => some (Value.int z)) (by first | exact (bst_0 (by first | (rw [decide_eq_false c90]; rfl) | (rw [b2_n0 c99, Bool.not_true, Bool.and_false]; rfl) | (rw [b2_0.mp c110, Bool.and_false]))).symm | exact (bst_lt (by rw [decide_eq_true c90, b2_0.mp c99, b2_n0 c110]; rfl) (its_2 c128) c166).symm | exact (bst_lt (by rw [decide_eq_true c90, b2_0.mp c99, b2_n0 c110]; rfl) (its_3 c128 c147) c166).symm | exact (bst_lt (by rw [decide_eq_true c90, b2_0.mp c99, b2_n0 c110]; rfl) (its_4 c128 c147) c166).symm | exact (bst_ge (its_2 c128) c166).symm | exact (bst_ge (its_3 c128 c147) c166).symm | exact (bst_ge (its_4 c128 c147) c166).symm), rfl, trivial⟩
              refine q_iload F dX5_judgement_169 rfl ?_
              refine q_goto F 176 dX5_judgement_171 rfl ?_
              refine q_istore F dX5_judgement_176 (by decide) rfl ?_
              refine q_iinc F (nI (j + 1)) dX5_judgement_178 rfl (nI_inc j) (by decide) rfl ?_
              refine q_goto F 74 dX5_judgement_181 rfl ?_
              exact q_to (ih (j + 1) (by omega)) ⟨rfl, rfl, rfl, rfl, rfl, congrArg (fun z => some (Value.int z)) (by first | exact (bst_0 (by first | (rw [decide_eq_false c90]; rfl) | (rw [b2_n0 c99, Bool.not_true, Bool.and_false]; rfl) | (rw [b2_0.mp c110, Bool.and_false]))).symm | exact (bst_lt (by rw [decide_eq_true c90, b2_0.mp c99, b2_n0 c110]; rfl) (its_2 c128) c166).symm | exact (bst_lt (by rw [decide_eq_true c90, b2_0.mp c99, b2_n0 c110]; rfl) (its_3 c128 c147) c166).symm | exact (bst_lt (by rw [decide_eq_true c90, b2_0.mp c99, b2_n0 c110]; rfl) (its_4 c128 c147) c166).symm | exact (bst_ge (its_2 c128) c166).symm | exact (bst_ge (its_3 c128 c147) c166).symm | exact (bst_ge (its_4 c128 c147) c166).symm), rfl, trivial⟩
            refine q_iconst F dX5_judgement_150 hc_3 ?_
            refine q_goto F 155 dX5_judgement_151 rfl ?_
            refine q_istore F dX5_judgement_155 (by decide) rfl ?_
            refine q_iload F dX5_judgement_157 rfl ?_
            refine q_if_eq F 174 dX5_judgement_159 rfl (fun c159 => ?_) (fun c159 => ?_)
            · exact absurd c159 (by decide)
            refine q_iload F dX5_judgement_162 rfl ?_
            refine q_iload F dX5_judgement_164 rfl ?_
            refine q_icmp_ge F 174 dX5_judgement_166 rfl (fun c166 => ?_) (fun c166 => ?_)
            · refine q_iload F dX5_judgement_174 rfl ?_
              refine q_istore F dX5_judgement_176 (by decide) rfl ?_
              refine q_iinc F (nI (j + 1)) dX5_judgement_178 rfl (nI_inc j) (by decide) rfl ?_
              refine q_goto F 74 dX5_judgement_181 rfl ?_
              exact q_to (ih (j + 1) (by omega)) ⟨rfl, rfl, rfl, rfl, rfl, congrArg (fun z => some (Value.int z)) (by first | exact (bst_0 (by first | (rw [decide_eq_false c90]; rfl) | (rw [b2_n0 c99, Bool.not_true, Bool.and_false]; rfl) | (rw [b2_0.mp c110, Bool.and_false]))).symm | exact (bst_lt (by rw [decide_eq_true c90, b2_0.mp c99, b2_n0 c110]; rfl) (its_2 c128) c166).symm | exact (bst_lt (by rw [decide_eq_true c90, b2_0.mp c99, b2_n0 c110]; rfl) (its_3 c128 c147) c166).symm | exact (bst_lt (by rw [decide_eq_true c90, b2_0.mp c99, b2_n0 c110]; rfl) (its_4 c128 c147) c166).symm | exact (bst_ge (its_2 c128) c166).symm | exact (bst_ge (its_3 c128 c147) c166).symm | exact (bst_ge (its_4 c128 c147) c166).symm), rfl, trivial⟩
            refine q_iload F dX5_judgement_169 rfl ?_
            refine q_goto F 176 dX5_judgement_171 rfl ?_
            refine q_istore F dX5_judgement_176 (by decide) rfl ?_
            refine q_iinc F (nI (j + 1)) dX5_judgement_178 rfl (nI_inc j) (by decide) rfl ?_
            refine q_goto F 74 dX5_judgement_181 rfl ?_
            exact q_to (ih (j + 1) (by omega)) ⟨rfl, rfl, rfl, rfl, rfl, congrArg (fun z => some (Value.int z)) (by first | exact (bst_0 (by first | (rw [decide_eq_false c90]; rfl) | (rw [b2_n0 c99, Bool.not_true, Bool.and_false]; rfl) | (rw [b2_0.mp c110, Bool.and_false]))).symm | exact (bst_lt (by rw [decide_eq_true c90, b2_0.mp c99, b2_n0 c110]; rfl) (its_2 c128) c166).symm | exact (bst_lt (by rw [decide_eq_true c90, b2_0.mp c99, b2_n0 c110]; rfl) (its_3 c128 c147) c166).symm | exact (bst_lt (by rw [decide_eq_true c90, b2_0.mp c99, b2_n0 c110]; rfl) (its_4 c128 c147) c166).symm | exact (bst_ge (its_2 c128) c166).symm | exact (bst_ge (its_3 c128 c147) c166).symm | exact (bst_ge (its_4 c128 c147) c166).symm), rfl, trivial⟩
          refine q_iconst F dX5_judgement_131 hc_2 ?_
          refine q_goto F 155 dX5_judgement_132 rfl ?_
          refine q_istore F dX5_judgement_155 (by decide) rfl ?_
          refine q_iload F dX5_judgement_157 rfl ?_
          refine q_if_eq F 174 dX5_judgement_159 rfl (fun c159 => ?_) (fun c159 => ?_)
          · exact absurd c159 (by decide)
          refine q_iload F dX5_judgement_162 rfl ?_
          refine q_iload F dX5_judgement_164 rfl ?_
          refine q_icmp_ge F 174 dX5_judgement_166 rfl (fun c166 => ?_) (fun c166 => ?_)
          · refine q_iload F dX5_judgement_174 rfl ?_
            refine q_istore F dX5_judgement_176 (by decide) rfl ?_
            refine q_iinc F (nI (j + 1)) dX5_judgement_178 rfl (nI_inc j) (by decide) rfl ?_
            refine q_goto F 74 dX5_judgement_181 rfl ?_
            exact q_to (ih (j + 1) (by omega)) ⟨rfl, rfl, rfl, rfl, rfl, congrArg (fun z => some (Value.int z)) (by first | exact (bst_0 (by first | (rw [decide_eq_false c90]; rfl) | (rw [b2_n0 c99, Bool.not_true, Bool.and_false]; rfl) | (rw [b2_0.mp c110, Bool.and_false]))).symm | exact (bst_lt (by rw [decide_eq_true c90, b2_0.mp c99, b2_n0 c110]; rfl) (its_2 c128) c166).symm | exact (bst_lt (by rw [decide_eq_true c90, b2_0.mp c99, b2_n0 c110]; rfl) (its_3 c128 c147) c166).symm | exact (bst_lt (by rw [decide_eq_true c90, b2_0.mp c99, b2_n0 c110]; rfl) (its_4 c128 c147) c166).symm | exact (bst_ge (its_2 c128) c166).symm | exact (bst_ge (its_3 c128 c147) c166).symm | exact (bst_ge (its_4 c128 c147) c166).symm), rfl, trivial⟩
          refine q_iload F dX5_judgement_169 rfl ?_
          refine q_goto F 176 dX5_judgement_171 rfl ?_
          refine q_istore F dX5_judgement_176 (by decide) rfl ?_
          refine q_iinc F (nI (j + 1)) dX5_judgement_178 rfl (nI_inc j) (by decide) rfl ?_
          refine q_goto F 74 dX5_judgement_181 rfl ?_
          exact q_to (ih (j + 1) (by omega)) ⟨rfl, rfl, rfl, rfl, rfl, congrArg (fun z => some (Value.int z)) (by first | exact (bst_0 (by first | (rw [decide_eq_false c90]; rfl) | (rw [b2_n0 c99, Bool.not_true, Bool.and_false]; rfl) | (rw [b2_0.mp c110, Bool.and_false]))).symm | exact (bst_lt (by rw [decide_eq_true c90, b2_0.mp c99, b2_n0 c110]; rfl) (its_2 c128) c166).symm | exact (bst_lt (by rw [decide_eq_true c90, b2_0.mp c99, b2_n0 c110]; rfl) (its_3 c128 c147) c166).symm | exact (bst_lt (by rw [decide_eq_true c90, b2_0.mp c99, b2_n0 c110]; rfl) (its_4 c128 c147) c166).symm | exact (bst_ge (its_2 c128) c166).symm | exact (bst_ge (its_3 c128 c147) c166).symm | exact (bst_ge (its_4 c128 c147) c166).symm), rfl, trivial⟩
      exact q_to (L n 0 (by omega)) ⟨rfl, rfl, rfl, rfl, rfl, rfl, rfl, trivial⟩
    refine q_aload_n F 0 dX5_judgement_55 rfl rfl ?_
    refine q_iload F dX5_judgement_56 rfl ?_
    refine q_iload_n F 1 dX5_judgement_58 rfl rfl ?_
    refine q_iload_n F 2 dX5_judgement_59 rfl rfl ?_
    refine q_callV_i F (c_X5_isGood hM hn hn40 hsz hs hs20 hci) gX5_judgement_X5_isGood rfl hd_X5_isGood ⟨Nat.le_of_ble_eq_true rfl, Nat.le_of_ble_eq_true rfl⟩ hM.1.1 rfl rfl rfl (Nat.le_of_ble_eq_true rfl) dX5_judgement_60 ⟨Nat.le_of_ble_eq_true rfl, Nat.le_of_ble_eq_true rfl⟩ ?_
    refine q_if_eq F 68 dX5_judgement_63 rfl (fun c63 => ?_) (fun c63 => ?_)
    · refine q_iconst F dX5_judgement_68 hc_5 ?_
      refine q_istore F dX5_judgement_69 (by decide) rfl ?_
      refine q_iconst F dX5_judgement_71 hc_0 ?_
      refine q_istore F dX5_judgement_72 (by decide) rfl ?_
      have hJ : (jg (sc 1) M n ns name port key (some ci)) = bst (sc 1) M name port key n := by exact jg_c2 (b2_0.mp c9) (b2_0.mp c33) (by first | exact (fun z => c52 z.1) | exact (fun z => by rw [z.2] at c63; exact absurd c63 (by decide)))
      have L : ∀ (r j : Nat), j + r = n → V p l e rm_X5_judgement s m args below meth c 9 g X (MQ below (hQ g X (pI (jg (sc 1) M n ns name port key (some ci)) S)) args s rm_X5_judgement.cells rm_X5_judgement.slots (hA g)) S 0 0 [(0, .ref md), (1, .int name), (2, .int port), (3, .int key), (4, .int (nI ci)), (5, .int (bst (sc 1) M name port key j)), (6, .int (nI j))] 74 [] := by
        intro r
        induction r with
        | zero =>
          intro j hjr
          have hjk : j = n := by omega
          refine q_iload F dX5_judgement_74 rfl ?_
          refine q_aload_n F 0 dX5_judgement_76 rfl rfl ?_
          refine qg_X5_91 F hM.1.1 dX5_judgement_77 ?_
          refine q_mg 4 (nI n) rfl hM hn ?_
          refine q_icmp_ge F 184 dX5_judgement_80 rfl (fun c80 => ?_) (fun c80 => ?_)
          · refine q_iload F dX5_judgement_184 rfl ?_
            exact (q_reti F hr rfl dX5_judgement_186 (Nat.le_of_ble_eq_true rfl) (Nat.le_of_ble_eq_true rfl) ⟨by rw [hJ, hjk], rfl⟩)
          exact absurd c80 (gT rfl rfl (show n ≤ j by omega) (by omega))
        | succ r ih =>
          intro j hjr
          have hj : j < n := by omega
          have hi40 : j < 40 := by omega
          obtain ⟨k, hk4, h12⟩ := hsz j hj
          refine q_iload F dX5_judgement_74 rfl ?_
          refine q_aload_n F 0 dX5_judgement_76 rfl rfl ?_
          refine qg_X5_91 F hM.1.1 dX5_judgement_77 ?_
          refine q_mg 4 (nI n) rfl hM hn ?_
          refine q_icmp_ge F 184 dX5_judgement_80 rfl (fun c80 => ?_) (fun c80 => ?_)
          · exact absurd c80 (gF rfl rfl hj (by omega))
          refine q_aload_n F 0 dX5_judgement_83 rfl rfl ?_
          refine qg_X5_17 F (hM.1.2.1 6 rfl).1 hM.1.1 dX5_judgement_84 ?_
          refine q_iload F dX5_judgement_87 rfl ?_
          refine q_iald F (hM.1.2.1 6 rfl).2.1 (hM.1.2.1 6 rfl).2.2 rfl hi40 (by decide) dX5_judgement_89 ?_
          refine q_ma 6 (_) rfl hM rfl ?_
          refine q_if_ne F 117 dX5_judgement_90 rfl (fun c90 => ?_) (fun c90 => ?_)
          · refine q_iconst F dX5_judgement_117 hc_0 ?_
            refine q_istore F dX5_judgement_118 (by decide) rfl ?_
            refine q_aload_n F 0 dX5_judgement_120 rfl rfl ?_
            refine qg_X5_13 F (hM.1.2.1 5 rfl).1 hM.1.1 dX5_judgement_121 ?_
            refine q_iload F dX5_judgement_124 rfl ?_
            refine q_iald F (hM.1.2.1 5 rfl).2.1 (hM.1.2.1 5 rfl).2.2 rfl hi40 (by decide) dX5_judgement_126 ?_
            refine q_ma 5 (_) rfl hM rfl ?_
            refine q_iload_n F 3 dX5_judgement_127 rfl rfl ?_
            refine q_icmp_ne F 135 dX5_judgement_128 rfl (fun c128 => ?_) (fun c128 => ?_)
            · refine q_aload_n F 0 dX5_judgement_135 rfl rfl ?_
              refine qg_X5_13 F (hM.1.2.1 5 rfl).1 hM.1.1 dX5_judgement_136 ?_
              refine q_iload F dX5_judgement_139 rfl ?_
              refine q_iald F (hM.1.2.1 5 rfl).2.1 (hM.1.2.1 5 rfl).2.2 rfl hi40 (by decide) dX5_judgement_141 ?_
              refine q_ma 5 (_) rfl hM rfl ?_
              refine q_iconst F dX5_judgement_142 hc_3 ?_
              refine q_irem F dX5_judgement_143 (by decide) ?_
              refine q_iload_n F 3 dX5_judgement_144 rfl rfl ?_
              refine q_iconst F dX5_judgement_145 hc_3 ?_
              refine q_irem F dX5_judgement_146 (by decide) ?_
              refine q_icmp_ne F 154 dX5_judgement_147 rfl (fun c147 => ?_) (fun c147 => ?_)
              · refine q_iconst F dX5_judgement_154 hc_4 ?_
                refine q_istore F dX5_judgement_155 (by decide) rfl ?_
                refine q_iload F dX5_judgement_157 rfl ?_
                refine q_if_eq F 174 dX5_judgement_159 rfl (fun c159 => ?_) (fun c159 => ?_)
                · refine q_iload F dX5_judgement_174 rfl ?_
                  refine q_istore F dX5_judgement_176 (by decide) rfl ?_
                  refine q_iinc F (nI (j + 1)) dX5_judgement_178 rfl (nI_inc j) (by decide) rfl ?_
                  refine q_goto F 74 dX5_judgement_181 rfl ?_
                  exact q_to (ih (j + 1) (by omega)) ⟨rfl, rfl, rfl, rfl, rfl, congrArg (fun z => some (Value.int z)) (by first | exact (bst_0 (by first | (rw [decide_eq_false c90]; rfl) | (rw [b2_n0 c99, Bool.not_true, Bool.and_false]; rfl) | (rw [b2_0.mp c110, Bool.and_false]))).symm | exact (bst_lt (by rw [decide_eq_true c90, b2_0.mp c99, b2_n0 c110]; rfl) (its_2 c128) c166).symm | exact (bst_lt (by rw [decide_eq_true c90, b2_0.mp c99, b2_n0 c110]; rfl) (its_3 c128 c147) c166).symm | exact (bst_lt (by rw [decide_eq_true c90, b2_0.mp c99, b2_n0 c110]; rfl) (its_4 c128 c147) c166).symm | exact (bst_ge (its_2 c128) c166).symm | exact (bst_ge (its_3 c128 c147) c166).symm | exact (bst_ge (its_4 c128 c147) c166).symm), rfl, trivial⟩
                exact absurd c159 (by decide)
              refine q_iconst F dX5_judgement_150 hc_3 ?_
              refine q_goto F 155 dX5_judgement_151 rfl ?_
              refine q_istore F dX5_judgement_155 (by decide) rfl ?_
              refine q_iload F dX5_judgement_157 rfl ?_
              refine q_if_eq F 174 dX5_judgement_159 rfl (fun c159 => ?_) (fun c159 => ?_)
              · refine q_iload F dX5_judgement_174 rfl ?_
                refine q_istore F dX5_judgement_176 (by decide) rfl ?_
                refine q_iinc F (nI (j + 1)) dX5_judgement_178 rfl (nI_inc j) (by decide) rfl ?_
                refine q_goto F 74 dX5_judgement_181 rfl ?_
                exact q_to (ih (j + 1) (by omega)) ⟨rfl, rfl, rfl, rfl, rfl, congrArg (fun z => some (Value.int z)) (by first | exact (bst_0 (by first | (rw [decide_eq_false c90]; rfl) | (rw [b2_n0 c99, Bool.not_true, Bool.and_false]; rfl) | (rw [b2_0.mp c110, Bool.and_false]))).symm | exact (bst_lt (by rw [decide_eq_true c90, b2_0.mp c99, b2_n0 c110]; rfl) (its_2 c128) c166).symm | exact (bst_lt (by rw [decide_eq_true c90, b2_0.mp c99, b2_n0 c110]; rfl) (its_3 c128 c147) c166).symm | exact (bst_lt (by rw [decide_eq_true c90, b2_0.mp c99, b2_n0 c110]; rfl) (its_4 c128 c147) c166).symm | exact (bst_ge (its_2 c128) c166).symm | exact (bst_ge (its_3 c128 c147) c166).symm | exact (bst_ge (its_4 c128 c147) c166).symm), rfl, trivial⟩
              exact absurd c159 (by decide)
            refine q_iconst F dX5_judgement_131 hc_2 ?_
            refine q_goto F 155 dX5_judgement_132 rfl ?_
            refine q_istore F dX5_judgement_155 (by decide) rfl ?_
            refine q_iload F dX5_judgement_157 rfl ?_
            refine q_if_eq F 174 dX5_judgement_159 rfl (fun c159 => ?_) (fun c159 => ?_)
            · refine q_iload F dX5_judgement_174 rfl ?_
              refine q_istore F dX5_judgement_176 (by decide) rfl ?_
              refine q_iinc F (nI (j + 1)) dX5_judgement_178 rfl (nI_inc j) (by decide) rfl ?_
              refine q_goto F 74 dX5_judgement_181 rfl ?_
              exact q_to (ih (j + 1) (by omega)) ⟨rfl, rfl, rfl, rfl, rfl, congrArg (fun z => some (Value.int z)) (by first | exact (bst_0 (by first | (rw [decide_eq_false c90]; rfl) | (rw [b2_n0 c99, Bool.not_true, Bool.and_false]; rfl) | (rw [b2_0.mp c110, Bool.and_false]))).symm | exact (bst_lt (by rw [decide_eq_true c90, b2_0.mp c99, b2_n0 c110]; rfl) (its_2 c128) c166).symm | exact (bst_lt (by rw [decide_eq_true c90, b2_0.mp c99, b2_n0 c110]; rfl) (its_3 c128 c147) c166).symm | exact (bst_lt (by rw [decide_eq_true c90, b2_0.mp c99, b2_n0 c110]; rfl) (its_4 c128 c147) c166).symm | exact (bst_ge (its_2 c128) c166).symm | exact (bst_ge (its_3 c128 c147) c166).symm | exact (bst_ge (its_4 c128 c147) c166).symm), rfl, trivial⟩
            exact absurd c159 (by decide)
          refine q_aload_n F 0 dX5_judgement_93 rfl rfl ?_
          refine q_iload F dX5_judgement_94 rfl ?_
          refine q_callV_i F (c_X5_hasEnded hM hi40) gX5_judgement_X5_hasEnded rfl hd_X5_hasEnded ⟨Nat.le_of_ble_eq_true rfl, Nat.le_of_ble_eq_true rfl⟩ hM.1.1 rfl rfl rfl (Nat.le_of_ble_eq_true rfl) dX5_judgement_96 ⟨Nat.le_of_ble_eq_true rfl, Nat.le_of_ble_eq_true rfl⟩ ?_
          refine q_if_ne F 117 dX5_judgement_99 rfl (fun c99 => ?_) (fun c99 => ?_)
          · refine q_iconst F dX5_judgement_117 hc_0 ?_
            refine q_istore F dX5_judgement_118 (by decide) rfl ?_
            refine q_aload_n F 0 dX5_judgement_120 rfl rfl ?_
            refine qg_X5_13 F (hM.1.2.1 5 rfl).1 hM.1.1 dX5_judgement_121 ?_
            refine q_iload F dX5_judgement_124 rfl ?_
            refine q_iald F (hM.1.2.1 5 rfl).2.1 (hM.1.2.1 5 rfl).2.2 rfl hi40 (by decide) dX5_judgement_126 ?_
            refine q_ma 5 (_) rfl hM rfl ?_
            refine q_iload_n F 3 dX5_judgement_127 rfl rfl ?_
            refine q_icmp_ne F 135 dX5_judgement_128 rfl (fun c128 => ?_) (fun c128 => ?_)
            · refine q_aload_n F 0 dX5_judgement_135 rfl rfl ?_
              refine qg_X5_13 F (hM.1.2.1 5 rfl).1 hM.1.1 dX5_judgement_136 ?_
              refine q_iload F dX5_judgement_139 rfl ?_
              refine q_iald F (hM.1.2.1 5 rfl).2.1 (hM.1.2.1 5 rfl).2.2 rfl hi40 (by decide) dX5_judgement_141 ?_
              refine q_ma 5 (_) rfl hM rfl ?_
              refine q_iconst F dX5_judgement_142 hc_3 ?_
              refine q_irem F dX5_judgement_143 (by decide) ?_
              refine q_iload_n F 3 dX5_judgement_144 rfl rfl ?_
              refine q_iconst F dX5_judgement_145 hc_3 ?_
              refine q_irem F dX5_judgement_146 (by decide) ?_
              refine q_icmp_ne F 154 dX5_judgement_147 rfl (fun c147 => ?_) (fun c147 => ?_)
              · refine q_iconst F dX5_judgement_154 hc_4 ?_
                refine q_istore F dX5_judgement_155 (by decide) rfl ?_
                refine q_iload F dX5_judgement_157 rfl ?_
                refine q_if_eq F 174 dX5_judgement_159 rfl (fun c159 => ?_) (fun c159 => ?_)
                · refine q_iload F dX5_judgement_174 rfl ?_
                  refine q_istore F dX5_judgement_176 (by decide) rfl ?_
                  refine q_iinc F (nI (j + 1)) dX5_judgement_178 rfl (nI_inc j) (by decide) rfl ?_
                  refine q_goto F 74 dX5_judgement_181 rfl ?_
                  exact q_to (ih (j + 1) (by omega)) ⟨rfl, rfl, rfl, rfl, rfl, congrArg (fun z => some (Value.int z)) (by first | exact (bst_0 (by first | (rw [decide_eq_false c90]; rfl) | (rw [b2_n0 c99, Bool.not_true, Bool.and_false]; rfl) | (rw [b2_0.mp c110, Bool.and_false]))).symm | exact (bst_lt (by rw [decide_eq_true c90, b2_0.mp c99, b2_n0 c110]; rfl) (its_2 c128) c166).symm | exact (bst_lt (by rw [decide_eq_true c90, b2_0.mp c99, b2_n0 c110]; rfl) (its_3 c128 c147) c166).symm | exact (bst_lt (by rw [decide_eq_true c90, b2_0.mp c99, b2_n0 c110]; rfl) (its_4 c128 c147) c166).symm | exact (bst_ge (its_2 c128) c166).symm | exact (bst_ge (its_3 c128 c147) c166).symm | exact (bst_ge (its_4 c128 c147) c166).symm), rfl, trivial⟩
                exact absurd c159 (by decide)
              refine q_iconst F dX5_judgement_150 hc_3 ?_
              refine q_goto F 155 dX5_judgement_151 rfl ?_
              refine q_istore F dX5_judgement_155 (by decide) rfl ?_
              refine q_iload F dX5_judgement_157 rfl ?_
              refine q_if_eq F 174 dX5_judgement_159 rfl (fun c159 => ?_) (fun c159 => ?_)
              · refine q_iload F dX5_judgement_174 rfl ?_
                refine q_istore F dX5_judgement_176 (by decide) rfl ?_
                refine q_iinc F (nI (j + 1)) dX5_judgement_178 rfl (nI_inc j) (by decide) rfl ?_
                refine q_goto F 74 dX5_judgement_181 rfl ?_
                exact q_to (ih (j + 1) (by omega)) ⟨rfl, rfl, rfl, rfl, rfl, congrArg (fun z => some (Value.int z)) (by first | exact (bst_0 (by first | (rw [decide_eq_false c90]; rfl) | (rw [b2_n0 c99, Bool.not_true, Bool.and_false]; rfl) | (rw [b2_0.mp c110, Bool.and_false]))).symm | exact (bst_lt (by rw [decide_eq_true c90, b2_0.mp c99, b2_n0 c110]; rfl) (its_2 c128) c166).symm | exact (bst_lt (by rw [decide_eq_true c90, b2_0.mp c99, b2_n0 c110]; rfl) (its_3 c128 c147) c166).symm | exact (bst_lt (by rw [decide_eq_true c90, b2_0.mp c99, b2_n0 c110]; rfl) (its_4 c128 c147) c166).symm | exact (bst_ge (its_2 c128) c166).symm | exact (bst_ge (its_3 c128 c147) c166).symm | exact (bst_ge (its_4 c128 c147) c166).symm), rfl, trivial⟩
              exact absurd c159 (by decide)
            refine q_iconst F dX5_judgement_131 hc_2 ?_
            refine q_goto F 155 dX5_judgement_132 rfl ?_
            refine q_istore F dX5_judgement_155 (by decide) rfl ?_
            refine q_iload F dX5_judgement_157 rfl ?_
            refine q_if_eq F 174 dX5_judgement_159 rfl (fun c159 => ?_) (fun c159 => ?_)
            · refine q_iload F dX5_judgement_174 rfl ?_
              refine q_istore F dX5_judgement_176 (by decide) rfl ?_
              refine q_iinc F (nI (j + 1)) dX5_judgement_178 rfl (nI_inc j) (by decide) rfl ?_
              refine q_goto F 74 dX5_judgement_181 rfl ?_
              exact q_to (ih (j + 1) (by omega)) ⟨rfl, rfl, rfl, rfl, rfl, congrArg (fun z => some (Value.int z)) (by first | exact (bst_0 (by first | (rw [decide_eq_false c90]; rfl) | (rw [b2_n0 c99, Bool.not_true, Bool.and_false]; rfl) | (rw [b2_0.mp c110, Bool.and_false]))).symm | exact (bst_lt (by rw [decide_eq_true c90, b2_0.mp c99, b2_n0 c110]; rfl) (its_2 c128) c166).symm | exact (bst_lt (by rw [decide_eq_true c90, b2_0.mp c99, b2_n0 c110]; rfl) (its_3 c128 c147) c166).symm | exact (bst_lt (by rw [decide_eq_true c90, b2_0.mp c99, b2_n0 c110]; rfl) (its_4 c128 c147) c166).symm | exact (bst_ge (its_2 c128) c166).symm | exact (bst_ge (its_3 c128 c147) c166).symm | exact (bst_ge (its_4 c128 c147) c166).symm), rfl, trivial⟩
            exact absurd c159 (by decide)
          refine q_aload_n F 0 dX5_judgement_102 rfl rfl ?_
          refine q_iload F dX5_judgement_103 rfl ?_
          refine q_iload_n F 1 dX5_judgement_105 rfl rfl ?_
          refine q_iload_n F 2 dX5_judgement_106 rfl rfl ?_
          refine q_callV_i F (c_X5_isFor (M := M) hM hi40 h12 hk4) gX5_judgement_X5_isFor rfl hd_X5_isFor ⟨Nat.le_of_ble_eq_true rfl, Nat.le_of_ble_eq_true rfl⟩ hM.1.1 rfl rfl rfl (Nat.le_of_ble_eq_true rfl) dX5_judgement_107 ⟨Nat.le_of_ble_eq_true rfl, Nat.le_of_ble_eq_true rfl⟩ ?_
          refine q_if_eq F 117 dX5_judgement_110 rfl (fun c110 => ?_) (fun c110 => ?_)
          · refine q_iconst F dX5_judgement_117 hc_0 ?_
            refine q_istore F dX5_judgement_118 (by decide) rfl ?_
            refine q_aload_n F 0 dX5_judgement_120 rfl rfl ?_
            refine qg_X5_13 F (hM.1.2.1 5 rfl).1 hM.1.1 dX5_judgement_121 ?_
            refine q_iload F dX5_judgement_124 rfl ?_
            refine q_iald F (hM.1.2.1 5 rfl).2.1 (hM.1.2.1 5 rfl).2.2 rfl hi40 (by decide) dX5_judgement_126 ?_
            refine q_ma 5 (_) rfl hM rfl ?_
            refine q_iload_n F 3 dX5_judgement_127 rfl rfl ?_
            refine q_icmp_ne F 135 dX5_judgement_128 rfl (fun c128 => ?_) (fun c128 => ?_)
            · refine q_aload_n F 0 dX5_judgement_135 rfl rfl ?_
              refine qg_X5_13 F (hM.1.2.1 5 rfl).1 hM.1.1 dX5_judgement_136 ?_
              refine q_iload F dX5_judgement_139 rfl ?_
              refine q_iald F (hM.1.2.1 5 rfl).2.1 (hM.1.2.1 5 rfl).2.2 rfl hi40 (by decide) dX5_judgement_141 ?_
              refine q_ma 5 (_) rfl hM rfl ?_
              refine q_iconst F dX5_judgement_142 hc_3 ?_
              refine q_irem F dX5_judgement_143 (by decide) ?_
              refine q_iload_n F 3 dX5_judgement_144 rfl rfl ?_
              refine q_iconst F dX5_judgement_145 hc_3 ?_
              refine q_irem F dX5_judgement_146 (by decide) ?_
              refine q_icmp_ne F 154 dX5_judgement_147 rfl (fun c147 => ?_) (fun c147 => ?_)
              · refine q_iconst F dX5_judgement_154 hc_4 ?_
                refine q_istore F dX5_judgement_155 (by decide) rfl ?_
                refine q_iload F dX5_judgement_157 rfl ?_
                refine q_if_eq F 174 dX5_judgement_159 rfl (fun c159 => ?_) (fun c159 => ?_)
                · refine q_iload F dX5_judgement_174 rfl ?_
                  refine q_istore F dX5_judgement_176 (by decide) rfl ?_
                  refine q_iinc F (nI (j + 1)) dX5_judgement_178 rfl (nI_inc j) (by decide) rfl ?_
                  refine q_goto F 74 dX5_judgement_181 rfl ?_
                  exact q_to (ih (j + 1) (by omega)) ⟨rfl, rfl, rfl, rfl, rfl, congrArg (fun z => some (Value.int z)) (by first | exact (bst_0 (by first | (rw [decide_eq_false c90]; rfl) | (rw [b2_n0 c99, Bool.not_true, Bool.and_false]; rfl) | (rw [b2_0.mp c110, Bool.and_false]))).symm | exact (bst_lt (by rw [decide_eq_true c90, b2_0.mp c99, b2_n0 c110]; rfl) (its_2 c128) c166).symm | exact (bst_lt (by rw [decide_eq_true c90, b2_0.mp c99, b2_n0 c110]; rfl) (its_3 c128 c147) c166).symm | exact (bst_lt (by rw [decide_eq_true c90, b2_0.mp c99, b2_n0 c110]; rfl) (its_4 c128 c147) c166).symm | exact (bst_ge (its_2 c128) c166).symm | exact (bst_ge (its_3 c128 c147) c166).symm | exact (bst_ge (its_4 c128 c147) c166).symm), rfl, trivial⟩
                exact absurd c159 (by decide)
              refine q_iconst F dX5_judgement_150 hc_3 ?_
              refine q_goto F 155 dX5_judgement_151 rfl ?_
              refine q_istore F dX5_judgement_155 (by decide) rfl ?_
              refine q_iload F dX5_judgement_157 rfl ?_
              refine q_if_eq F 174 dX5_judgement_159 rfl (fun c159 => ?_) (fun c159 => ?_)
              · refine q_iload F dX5_judgement_174 rfl ?_
                refine q_istore F dX5_judgement_176 (by decide) rfl ?_
                refine q_iinc F (nI (j + 1)) dX5_judgement_178 rfl (nI_inc j) (by decide) rfl ?_
                refine q_goto F 74 dX5_judgement_181 rfl ?_
                exact q_to (ih (j + 1) (by omega)) ⟨rfl, rfl, rfl, rfl, rfl, congrArg (fun z => some (Value.int z)) (by first | exact (bst_0 (by first | (rw [decide_eq_false c90]; rfl) | (rw [b2_n0 c99, Bool.not_true, Bool.and_false]; rfl) | (rw [b2_0.mp c110, Bool.and_false]))).symm | exact (bst_lt (by rw [decide_eq_true c90, b2_0.mp c99, b2_n0 c110]; rfl) (its_2 c128) c166).symm | exact (bst_lt (by rw [decide_eq_true c90, b2_0.mp c99, b2_n0 c110]; rfl) (its_3 c128 c147) c166).symm | exact (bst_lt (by rw [decide_eq_true c90, b2_0.mp c99, b2_n0 c110]; rfl) (its_4 c128 c147) c166).symm | exact (bst_ge (its_2 c128) c166).symm | exact (bst_ge (its_3 c128 c147) c166).symm | exact (bst_ge (its_4 c128 c147) c166).symm), rfl, trivial⟩
              exact absurd c159 (by decide)
            refine q_iconst F dX5_judgement_131 hc_2 ?_
            refine q_goto F 155 dX5_judgement_132 rfl ?_
            refine q_istore F dX5_judgement_155 (by decide) rfl ?_
            refine q_iload F dX5_judgement_157 rfl ?_
            refine q_if_eq F 174 dX5_judgement_159 rfl (fun c159 => ?_) (fun c159 => ?_)
            · refine q_iload F dX5_judgement_174 rfl ?_
              refine q_istore F dX5_judgement_176 (by decide) rfl ?_
              refine q_iinc F (nI (j + 1)) dX5_judgement_178 rfl (nI_inc j) (by decide) rfl ?_
              refine q_goto F 74 dX5_judgement_181 rfl ?_
              exact q_to (ih (j + 1) (by omega)) ⟨rfl, rfl, rfl, rfl, rfl, congrArg (fun z => some (Value.int z)) (by first | exact (bst_0 (by first | (rw [decide_eq_false c90]; rfl) | (rw [b2_n0 c99, Bool.not_true, Bool.and_false]; rfl) | (rw [b2_0.mp c110, Bool.and_false]))).symm | exact (bst_lt (by rw [decide_eq_true c90, b2_0.mp c99, b2_n0 c110]; rfl) (its_2 c128) c166).symm | exact (bst_lt (by rw [decide_eq_true c90, b2_0.mp c99, b2_n0 c110]; rfl) (its_3 c128 c147) c166).symm | exact (bst_lt (by rw [decide_eq_true c90, b2_0.mp c99, b2_n0 c110]; rfl) (its_4 c128 c147) c166).symm | exact (bst_ge (its_2 c128) c166).symm | exact (bst_ge (its_3 c128 c147) c166).symm | exact (bst_ge (its_4 c128 c147) c166).symm), rfl, trivial⟩
            exact absurd c159 (by decide)
          refine q_iconst F dX5_judgement_113 hc_1 ?_
          refine q_goto F 118 dX5_judgement_114 rfl ?_
          refine q_istore F dX5_judgement_118 (by decide) rfl ?_
          refine q_aload_n F 0 dX5_judgement_120 rfl rfl ?_
          refine qg_X5_13 F (hM.1.2.1 5 rfl).1 hM.1.1 dX5_judgement_121 ?_
          refine q_iload F dX5_judgement_124 rfl ?_
          refine q_iald F (hM.1.2.1 5 rfl).2.1 (hM.1.2.1 5 rfl).2.2 rfl hi40 (by decide) dX5_judgement_126 ?_
          refine q_ma 5 (_) rfl hM rfl ?_
          refine q_iload_n F 3 dX5_judgement_127 rfl rfl ?_
          refine q_icmp_ne F 135 dX5_judgement_128 rfl (fun c128 => ?_) (fun c128 => ?_)
          · refine q_aload_n F 0 dX5_judgement_135 rfl rfl ?_
            refine qg_X5_13 F (hM.1.2.1 5 rfl).1 hM.1.1 dX5_judgement_136 ?_
            refine q_iload F dX5_judgement_139 rfl ?_
            refine q_iald F (hM.1.2.1 5 rfl).2.1 (hM.1.2.1 5 rfl).2.2 rfl hi40 (by decide) dX5_judgement_141 ?_
            refine q_ma 5 (_) rfl hM rfl ?_
            refine q_iconst F dX5_judgement_142 hc_3 ?_
            refine q_irem F dX5_judgement_143 (by decide) ?_
            refine q_iload_n F 3 dX5_judgement_144 rfl rfl ?_
            refine q_iconst F dX5_judgement_145 hc_3 ?_
            refine q_irem F dX5_judgement_146 (by decide) ?_
            refine q_icmp_ne F 154 dX5_judgement_147 rfl (fun c147 => ?_) (fun c147 => ?_)
            · refine q_iconst F dX5_judgement_154 hc_4 ?_
              refine q_istore F dX5_judgement_155 (by decide) rfl ?_
              refine q_iload F dX5_judgement_157 rfl ?_
              refine q_if_eq F 174 dX5_judgement_159 rfl (fun c159 => ?_) (fun c159 => ?_)
              · exact absurd c159 (by decide)
              refine q_iload F dX5_judgement_162 rfl ?_
              refine q_iload F dX5_judgement_164 rfl ?_
              refine q_icmp_ge F 174 dX5_judgement_166 rfl (fun c166 => ?_) (fun c166 => ?_)
              · refine q_iload F dX5_judgement_174 rfl ?_
                refine q_istore F dX5_judgement_176 (by decide) rfl ?_
                refine q_iinc F (nI (j + 1)) dX5_judgement_178 rfl (nI_inc j) (by decide) rfl ?_
                refine q_goto F 74 dX5_judgement_181 rfl ?_
                exact q_to (ih (j + 1) (by omega)) ⟨rfl, rfl, rfl, rfl, rfl, congrArg (fun z => some (Value.int z)) (by first | exact (bst_0 (by first | (rw [decide_eq_false c90]; rfl) | (rw [b2_n0 c99, Bool.not_true, Bool.and_false]; rfl) | (rw [b2_0.mp c110, Bool.and_false]))).symm | exact (bst_lt (by rw [decide_eq_true c90, b2_0.mp c99, b2_n0 c110]; rfl) (its_2 c128) c166).symm | exact (bst_lt (by rw [decide_eq_true c90, b2_0.mp c99, b2_n0 c110]; rfl) (its_3 c128 c147) c166).symm | exact (bst_lt (by rw [decide_eq_true c90, b2_0.mp c99, b2_n0 c110]; rfl) (its_4 c128 c147) c166).symm | exact (bst_ge (its_2 c128) c166).symm | exact (bst_ge (its_3 c128 c147) c166).symm | exact (bst_ge (its_4 c128 c147) c166).symm), rfl, trivial⟩
              refine q_iload F dX5_judgement_169 rfl ?_
              refine q_goto F 176 dX5_judgement_171 rfl ?_
              refine q_istore F dX5_judgement_176 (by decide) rfl ?_
              refine q_iinc F (nI (j + 1)) dX5_judgement_178 rfl (nI_inc j) (by decide) rfl ?_
              refine q_goto F 74 dX5_judgement_181 rfl ?_
              exact q_to (ih (j + 1) (by omega)) ⟨rfl, rfl, rfl, rfl, rfl, congrArg (fun z => some (Value.int z)) (by first | exact (bst_0 (by first | (rw [decide_eq_false c90]; rfl) | (rw [b2_n0 c99, Bool.not_true, Bool.and_false]; rfl) | (rw [b2_0.mp c110, Bool.and_false]))).symm | exact (bst_lt (by rw [decide_eq_true c90, b2_0.mp c99, b2_n0 c110]; rfl) (its_2 c128) c166).symm | exact (bst_lt (by rw [decide_eq_true c90, b2_0.mp c99, b2_n0 c110]; rfl) (its_3 c128 c147) c166).symm | exact (bst_lt (by rw [decide_eq_true c90, b2_0.mp c99, b2_n0 c110]; rfl) (its_4 c128 c147) c166).symm | exact (bst_ge (its_2 c128) c166).symm | exact (bst_ge (its_3 c128 c147) c166).symm | exact (bst_ge (its_4 c128 c147) c166).symm), rfl, trivial⟩
            refine q_iconst F dX5_judgement_150 hc_3 ?_
            refine q_goto F 155 dX5_judgement_151 rfl ?_
            refine q_istore F dX5_judgement_155 (by decide) rfl ?_
            refine q_iload F dX5_judgement_157 rfl ?_
            refine q_if_eq F 174 dX5_judgement_159 rfl (fun c159 => ?_) (fun c159 => ?_)
            · exact absurd c159 (by decide)
            refine q_iload F dX5_judgement_162 rfl ?_
            refine q_iload F dX5_judgement_164 rfl ?_
            refine q_icmp_ge F 174 dX5_judgement_166 rfl (fun c166 => ?_) (fun c166 => ?_)
            · refine q_iload F dX5_judgement_174 rfl ?_
              refine q_istore F dX5_judgement_176 (by decide) rfl ?_
              refine q_iinc F (nI (j + 1)) dX5_judgement_178 rfl (nI_inc j) (by decide) rfl ?_
              refine q_goto F 74 dX5_judgement_181 rfl ?_
              exact q_to (ih (j + 1) (by omega)) ⟨rfl, rfl, rfl, rfl, rfl, congrArg (fun z => some (Value.int z)) (by first | exact (bst_0 (by first | (rw [decide_eq_false c90]; rfl) | (rw [b2_n0 c99, Bool.not_true, Bool.and_false]; rfl) | (rw [b2_0.mp c110, Bool.and_false]))).symm | exact (bst_lt (by rw [decide_eq_true c90, b2_0.mp c99, b2_n0 c110]; rfl) (its_2 c128) c166).symm | exact (bst_lt (by rw [decide_eq_true c90, b2_0.mp c99, b2_n0 c110]; rfl) (its_3 c128 c147) c166).symm | exact (bst_lt (by rw [decide_eq_true c90, b2_0.mp c99, b2_n0 c110]; rfl) (its_4 c128 c147) c166).symm | exact (bst_ge (its_2 c128) c166).symm | exact (bst_ge (its_3 c128 c147) c166).symm | exact (bst_ge (its_4 c128 c147) c166).symm), rfl, trivial⟩
            refine q_iload F dX5_judgement_169 rfl ?_
            refine q_goto F 176 dX5_judgement_171 rfl ?_
            refine q_istore F dX5_judgement_176 (by decide) rfl ?_
            refine q_iinc F (nI (j + 1)) dX5_judgement_178 rfl (nI_inc j) (by decide) rfl ?_
            refine q_goto F 74 dX5_judgement_181 rfl ?_
            exact q_to (ih (j + 1) (by omega)) ⟨rfl, rfl, rfl, rfl, rfl, congrArg (fun z => some (Value.int z)) (by first | exact (bst_0 (by first | (rw [decide_eq_false c90]; rfl) | (rw [b2_n0 c99, Bool.not_true, Bool.and_false]; rfl) | (rw [b2_0.mp c110, Bool.and_false]))).symm | exact (bst_lt (by rw [decide_eq_true c90, b2_0.mp c99, b2_n0 c110]; rfl) (its_2 c128) c166).symm | exact (bst_lt (by rw [decide_eq_true c90, b2_0.mp c99, b2_n0 c110]; rfl) (its_3 c128 c147) c166).symm | exact (bst_lt (by rw [decide_eq_true c90, b2_0.mp c99, b2_n0 c110]; rfl) (its_4 c128 c147) c166).symm | exact (bst_ge (its_2 c128) c166).symm | exact (bst_ge (its_3 c128 c147) c166).symm | exact (bst_ge (its_4 c128 c147) c166).symm), rfl, trivial⟩
          refine q_iconst F dX5_judgement_131 hc_2 ?_
          refine q_goto F 155 dX5_judgement_132 rfl ?_
          refine q_istore F dX5_judgement_155 (by decide) rfl ?_
          refine q_iload F dX5_judgement_157 rfl ?_
          refine q_if_eq F 174 dX5_judgement_159 rfl (fun c159 => ?_) (fun c159 => ?_)
          · exact absurd c159 (by decide)
          refine q_iload F dX5_judgement_162 rfl ?_
          refine q_iload F dX5_judgement_164 rfl ?_
          refine q_icmp_ge F 174 dX5_judgement_166 rfl (fun c166 => ?_) (fun c166 => ?_)
          · refine q_iload F dX5_judgement_174 rfl ?_
            refine q_istore F dX5_judgement_176 (by decide) rfl ?_
            refine q_iinc F (nI (j + 1)) dX5_judgement_178 rfl (nI_inc j) (by decide) rfl ?_
            refine q_goto F 74 dX5_judgement_181 rfl ?_
            exact q_to (ih (j + 1) (by omega)) ⟨rfl, rfl, rfl, rfl, rfl, congrArg (fun z => some (Value.int z)) (by first | exact (bst_0 (by first | (rw [decide_eq_false c90]; rfl) | (rw [b2_n0 c99, Bool.not_true, Bool.and_false]; rfl) | (rw [b2_0.mp c110, Bool.and_false]))).symm | exact (bst_lt (by rw [decide_eq_true c90, b2_0.mp c99, b2_n0 c110]; rfl) (its_2 c128) c166).symm | exact (bst_lt (by rw [decide_eq_true c90, b2_0.mp c99, b2_n0 c110]; rfl) (its_3 c128 c147) c166).symm | exact (bst_lt (by rw [decide_eq_true c90, b2_0.mp c99, b2_n0 c110]; rfl) (its_4 c128 c147) c166).symm | exact (bst_ge (its_2 c128) c166).symm | exact (bst_ge (its_3 c128 c147) c166).symm | exact (bst_ge (its_4 c128 c147) c166).symm), rfl, trivial⟩
          refine q_iload F dX5_judgement_169 rfl ?_
          refine q_goto F 176 dX5_judgement_171 rfl ?_
          refine q_istore F dX5_judgement_176 (by decide) rfl ?_
          refine q_iinc F (nI (j + 1)) dX5_judgement_178 rfl (nI_inc j) (by decide) rfl ?_
          refine q_goto F 74 dX5_judgement_181 rfl ?_
          exact q_to (ih (j + 1) (by omega)) ⟨rfl, rfl, rfl, rfl, rfl, congrArg (fun z => some (Value.int z)) (by first | exact (bst_0 (by first | (rw [decide_eq_false c90]; rfl) | (rw [b2_n0 c99, Bool.not_true, Bool.and_false]; rfl) | (rw [b2_0.mp c110, Bool.and_false]))).symm | exact (bst_lt (by rw [decide_eq_true c90, b2_0.mp c99, b2_n0 c110]; rfl) (its_2 c128) c166).symm | exact (bst_lt (by rw [decide_eq_true c90, b2_0.mp c99, b2_n0 c110]; rfl) (its_3 c128 c147) c166).symm | exact (bst_lt (by rw [decide_eq_true c90, b2_0.mp c99, b2_n0 c110]; rfl) (its_4 c128 c147) c166).symm | exact (bst_ge (its_2 c128) c166).symm | exact (bst_ge (its_3 c128 c147) c166).symm | exact (bst_ge (its_4 c128 c147) c166).symm), rfl, trivial⟩
      exact q_to (L n 0 (by omega)) ⟨rfl, rfl, rfl, rfl, rfl, rfl, rfl, trivial⟩
    refine q_iconst F dX5_judgement_66 hc_1 ?_
    exact (q_reti F hr rfl dX5_judgement_67 (Nat.le_of_ble_eq_true rfl) (Nat.le_of_ble_eq_true rfl) ⟨by rw [jg_c1 (b2_0.mp c9) (b2_0.mp c33) c52 (b2_n0 c63)], rfl⟩)
  refine q_iconst F dX5_judgement_36 hc_0 ?_
  exact (q_reti F hr rfl dX5_judgement_37 (Nat.le_of_ble_eq_true rfl) (Nat.le_of_ble_eq_true rfl) ⟨by first | rw [jg_c0 (Or.inl (b2_n0 c9))] | rw [jg_c0 (Or.inr (b2_n0 c33))], rfl⟩)

set_option maxHeartbeats 4000000 in
set_option maxRecDepth 100000 in
theorem c_X5_judge_0 {l : Launch} {g : hG} {X : va_W} {S : hS} {md : Nat} {ar : Nat → Nat} {sc : Nat → Int32} {M : Nat → Nat → Int32} (hM : mS S md ar sc M) {nc : Nat} (hc : sc 17 = nI nc) (hc20 : nc ≤ 20) {name port key : Int32} {ct : Int32} (hA1 : okC ct nc = false) : hMet l yX5_judge wsX5_judge rm_X5_judge g X S [.ref md, .int name, .int port, .int key, .int ct] (mI S md ar 0 (va_up sc 0 1) M) := by
  refine h_start (maxL := 5) (ret := (some .int)) (by decide) rfl (Nat.le_of_ble_eq_true rfl) ?_
  intro p e s m args below meth c F hr hinit
  have hm := mdF.rf S
  refine q_aload_n F 0 dX5_judge_0 rfl rfl ?_
  refine q_iload_n F 1 dX5_judge_1 rfl rfl ?_
  refine q_iload_n F 2 dX5_judge_2 rfl rfl ?_
  refine q_iload_n F 3 dX5_judge_3 rfl rfl ?_
  refine q_iload F dX5_judge_4 rfl ?_
  refine q_callV_gi F (c_X5_isJudged_0 hM hc hc20 hA1) gX5_judge_X5_isJudged rfl hd_X5_isJudged ⟨Nat.le_of_ble_eq_true rfl, Nat.le_of_ble_eq_true rfl⟩ hM.1.1 rfl rfl rfl (Nat.le_of_ble_eq_true rfl) dX5_judge_6 ⟨Nat.le_of_ble_eq_true rfl, Nat.le_of_ble_eq_true rfl⟩ (fun r6 S6 hp6 => ?_)
  obtain ⟨rfl, hM, hm6⟩ := hp6
  have hm := hm.trans hm6
  refine q_if_eq F 24 dX5_judge_9 rfl (fun c9 => ?_) (fun c9 => ?_)
  · refine q_iconst F dX5_judge_24 hc_0 ?_
    exact (q_reti F hr rfl dX5_judge_25 (Nat.le_of_ble_eq_true rfl) (Nat.le_of_ble_eq_true rfl) ⟨_, rfl, rfl, hM, hm⟩)
  exact absurd c9 (by decide)

set_option maxHeartbeats 4000000 in
set_option maxRecDepth 100000 in
theorem c_X5_judge_1 {l : Launch} {g : hG} {X : va_W} {S : hS} {md : Nat} {ar : Nat → Nat} {sc : Nat → Int32} {M : Nat → Nat → Int32} (hM : mS S md ar sc M) {nc : Nat} (hc : sc 17 = nI nc) (hc20 : nc ≤ 20) {name port key : Int32} {ct : Int32} (hA1 : okC ct nc = true) (hB1 : (okNP name port && okK key) = false) : hMet l yX5_judge wsX5_judge rm_X5_judge g X S [.ref md, .int name, .int port, .int key, .int ct] (mI S md ar 0 (va_up sc 0 2) M) := by
  refine h_start (maxL := 5) (ret := (some .int)) (by decide) rfl (Nat.le_of_ble_eq_true rfl) ?_
  intro p e s m args below meth c F hr hinit
  have hm := mdF.rf S
  refine q_aload_n F 0 dX5_judge_0 rfl rfl ?_
  refine q_iload_n F 1 dX5_judge_1 rfl rfl ?_
  refine q_iload_n F 2 dX5_judge_2 rfl rfl ?_
  refine q_iload_n F 3 dX5_judge_3 rfl rfl ?_
  refine q_iload F dX5_judge_4 rfl ?_
  refine q_callV_gi F (c_X5_isJudged_1 hM hc hc20 hA1 hB1) gX5_judge_X5_isJudged rfl hd_X5_isJudged ⟨Nat.le_of_ble_eq_true rfl, Nat.le_of_ble_eq_true rfl⟩ hM.1.1 rfl rfl rfl (Nat.le_of_ble_eq_true rfl) dX5_judge_6 ⟨Nat.le_of_ble_eq_true rfl, Nat.le_of_ble_eq_true rfl⟩ (fun r6 S6 hp6 => ?_)
  obtain ⟨rfl, hM, hm6⟩ := hp6
  have hm := hm.trans hm6
  refine q_if_eq F 24 dX5_judge_9 rfl (fun c9 => ?_) (fun c9 => ?_)
  · refine q_iconst F dX5_judge_24 hc_0 ?_
    exact (q_reti F hr rfl dX5_judge_25 (Nat.le_of_ble_eq_true rfl) (Nat.le_of_ble_eq_true rfl) ⟨_, rfl, rfl, hM, hm⟩)
  exact absurd c9 (by decide)

set_option maxHeartbeats 4000000 in
set_option maxRecDepth 100000 in
theorem c_X5_judge_n {l : Launch} {g : hG} {X : va_W} {S : hS} {md : Nat} {ar : Nat → Nat} {sc : Nat → Int32} {M : Nat → Nat → Int32} (hM : mS S md ar sc M) {n : Nat} (hn : sc 4 = nI n) (hn40 : n ≤ 40) (hsz : ∀ i, i < n → ∃ k, k ≤ 4 ∧ M 12 i = nI k) {ns : Nat} (hs : sc 25 = nI ns) (hs20 : ns ≤ 20) {nc : Nat} (hc : sc 17 = nI nc) (hc20 : nc ≤ 20) {name port key : Int32} (hB1 : (okNP name port && okK key) = true) : hMet l yX5_judge wsX5_judge rm_X5_judge g X S [.ref md, .int name, .int port, .int key, .int (-1)] (mI S md ar (jg (sc 1) M n ns name port key none) (va_up sc 0 0) M) := by
  refine h_start (maxL := 5) (ret := (some .int)) (by decide) rfl (Nat.le_of_ble_eq_true rfl) ?_
  intro p e s m args below meth c F hr hinit
  have hm := mdF.rf S
  refine q_aload_n F 0 dX5_judge_0 rfl rfl ?_
  refine q_iload_n F 1 dX5_judge_1 rfl rfl ?_
  refine q_iload_n F 2 dX5_judge_2 rfl rfl ?_
  refine q_iload_n F 3 dX5_judge_3 rfl rfl ?_
  refine q_iload F dX5_judge_4 rfl ?_
  refine q_callV_gi F (c_X5_isJudged_2 hM hc hc20 rfl hB1) gX5_judge_X5_isJudged rfl hd_X5_isJudged ⟨Nat.le_of_ble_eq_true rfl, Nat.le_of_ble_eq_true rfl⟩ hM.1.1 rfl rfl rfl (Nat.le_of_ble_eq_true rfl) dX5_judge_6 ⟨Nat.le_of_ble_eq_true rfl, Nat.le_of_ble_eq_true rfl⟩ (fun r6 S6 hp6 => ?_)
  obtain ⟨rfl, hM, hm6⟩ := hp6
  have hm := hm.trans hm6
  refine q_if_eq F 24 dX5_judge_9 rfl (fun c9 => ?_) (fun c9 => ?_)
  · exact absurd c9 (by decide)
  refine q_aload_n F 0 dX5_judge_12 rfl rfl ?_
  refine q_iload_n F 1 dX5_judge_13 rfl rfl ?_
  refine q_iload_n F 2 dX5_judge_14 rfl rfl ?_
  refine q_iload_n F 3 dX5_judge_15 rfl rfl ?_
  refine q_iload F dX5_judge_16 rfl ?_
  refine q_callV_i F (c_X5_judgement_n hM hn hn40 hsz hs hs20) gX5_judge_X5_judgement rfl hd_X5_judgement ⟨Nat.le_of_ble_eq_true rfl, Nat.le_of_ble_eq_true rfl⟩ hM.1.1 rfl rfl rfl (Nat.le_of_ble_eq_true rfl) dX5_judge_18 ⟨Nat.le_of_ble_eq_true rfl, Nat.le_of_ble_eq_true rfl⟩ ?_
  refine q_goto F 25 dX5_judge_21 rfl ?_
  exact (q_reti F hr rfl dX5_judge_25 (Nat.le_of_ble_eq_true rfl) (Nat.le_of_ble_eq_true rfl) ⟨_, rfl, rfl, hM, hm⟩)

theorem okC_nI {ci nc : Nat} (h : ci < nc) (hn : nc < 2 ^ 31) : okC (nI ci) nc = true := by unfold okC; rw [inL_nI h hn, Bool.or_true]
set_option maxHeartbeats 4000000 in
set_option maxRecDepth 100000 in
theorem c_X5_judge_c {l : Launch} {g : hG} {X : va_W} {S : hS} {md : Nat} {ar : Nat → Nat} {sc : Nat → Int32} {M : Nat → Nat → Int32} (hM : mS S md ar sc M) {n : Nat} (hn : sc 4 = nI n) (hn40 : n ≤ 40) (hsz : ∀ i, i < n → ∃ k, k ≤ 4 ∧ M 12 i = nI k) {ns : Nat} (hs : sc 25 = nI ns) (hs20 : ns ≤ 20) {nc : Nat} (hc : sc 17 = nI nc) (hc20 : nc ≤ 20) {name port key : Int32} (hB1 : (okNP name port && okK key) = true) {ci : Nat} (hci : ci < nc) : hMet l yX5_judge wsX5_judge rm_X5_judge g X S [.ref md, .int name, .int port, .int key, .int (nI ci)] (mI S md ar (jg (sc 1) M n ns name port key (some ci)) (va_up sc 0 0) M) := by
  refine h_start (maxL := 5) (ret := (some .int)) (by decide) rfl (Nat.le_of_ble_eq_true rfl) ?_
  intro p e s m args below meth c F hr hinit
  have hm := mdF.rf S
  refine q_aload_n F 0 dX5_judge_0 rfl rfl ?_
  refine q_iload_n F 1 dX5_judge_1 rfl rfl ?_
  refine q_iload_n F 2 dX5_judge_2 rfl rfl ?_
  refine q_iload_n F 3 dX5_judge_3 rfl rfl ?_
  refine q_iload F dX5_judge_4 rfl ?_
  refine q_callV_gi F (c_X5_isJudged_2 hM hc hc20 (okC_nI hci (by omega)) hB1) gX5_judge_X5_isJudged rfl hd_X5_isJudged ⟨Nat.le_of_ble_eq_true rfl, Nat.le_of_ble_eq_true rfl⟩ hM.1.1 rfl rfl rfl (Nat.le_of_ble_eq_true rfl) dX5_judge_6 ⟨Nat.le_of_ble_eq_true rfl, Nat.le_of_ble_eq_true rfl⟩ (fun r6 S6 hp6 => ?_)
  obtain ⟨rfl, hM, hm6⟩ := hp6
  have hm := hm.trans hm6
  refine q_if_eq F 24 dX5_judge_9 rfl (fun c9 => ?_) (fun c9 => ?_)
  · exact absurd c9 (by decide)
  refine q_aload_n F 0 dX5_judge_12 rfl rfl ?_
  refine q_iload_n F 1 dX5_judge_13 rfl rfl ?_
  refine q_iload_n F 2 dX5_judge_14 rfl rfl ?_
  refine q_iload_n F 3 dX5_judge_15 rfl rfl ?_
  refine q_iload F dX5_judge_16 rfl ?_
  refine q_callV_i F (c_X5_judgement_c hM hn hn40 hsz hs hs20 (show ci < 20 by omega)) gX5_judge_X5_judgement rfl hd_X5_judgement ⟨Nat.le_of_ble_eq_true rfl, Nat.le_of_ble_eq_true rfl⟩ hM.1.1 rfl rfl rfl (Nat.le_of_ble_eq_true rfl) dX5_judge_18 ⟨Nat.le_of_ble_eq_true rfl, Nat.le_of_ble_eq_true rfl⟩ ?_
  refine q_goto F 25 dX5_judge_21 rfl ?_
  exact (q_reti F hr rfl dX5_judge_25 (Nat.le_of_ble_eq_true rfl) (Nat.le_of_ble_eq_true rfl) ⟨_, rfl, rfl, hM, hm⟩)

set_option maxHeartbeats 4000000 in
set_option maxRecDepth 100000 in
theorem c_X5_judgeByReading {l : Launch} {g : hG} {X : va_W} {S : hS} {md : Nat} {ar : Nat → Nat} {sc : Nat → Int32} {M : Nat → Nat → Int32} (hM : mS S md ar sc M) {n : Nat} (hn : sc 4 = nI n) (hn40 : n ≤ 40) (hsz : ∀ i, i < n → ∃ k, k ≤ 4 ∧ M 12 i = nI k) {ns : Nat} (hs : sc 25 = nI ns) (hs20 : ns ≤ 20) {name port key : Int32} : hMet l yX5_judgeByReading wsX5_judgeByReading rm_X5_judgeByReading g X S [.ref md, .int name, .int port, .int key] (mP1 S md ar (okNP name port && okK key) sc M (jg (sc 1) M n ns name port key none) (va_up sc 0 0) M) := by
  refine h_start (maxL := 4) (ret := (some .int)) (by decide) rfl (Nat.le_of_ble_eq_true rfl) ?_
  intro p e s m args below meth c F hr hinit
  have hm := mdF.rf S
  refine q_aload_n F 0 dX5_judgeByReading_0 rfl rfl ?_
  refine q_iload_n F 1 dX5_judgeByReading_1 rfl rfl ?_
  refine q_iload_n F 2 dX5_judgeByReading_2 rfl rfl ?_
  refine q_iload_n F 3 dX5_judgeByReading_3 rfl rfl ?_
  refine q_callS_i F (c_X5_areAsked) gX5_judgeByReading_X5_areAsked rfl hd_X5_areAsked ⟨Nat.le_of_ble_eq_true rfl, Nat.le_of_ble_eq_true rfl⟩ rfl rfl (Nat.le_of_ble_eq_true rfl) dX5_judgeByReading_4 ⟨Nat.le_of_ble_eq_true rfl, Nat.le_of_ble_eq_true rfl⟩ ?_
  refine q_if_eq F 14 dX5_judgeByReading_7 rfl (fun c7 => ?_) (fun c7 => ?_)
  · refine q_iconst F dX5_judgeByReading_14 hc_1 ?_
    refine q_callV_gi F (c_X5_holds hM) gX5_judgeByReading_X5_holds rfl hd_X5_holds ⟨Nat.le_of_ble_eq_true rfl, Nat.le_of_ble_eq_true rfl⟩ hM.1.1 rfl rfl rfl (Nat.le_of_ble_eq_true rfl) dX5_judgeByReading_15 ⟨Nat.le_of_ble_eq_true rfl, Nat.le_of_ble_eq_true rfl⟩ (fun r15 S15 hp15 => ?_)
    obtain ⟨rfl, hM, hm15⟩ := hp15
    have hm := hm.trans hm15
    refine q_cz ?_
    refine q_if_eq F 32 dX5_judgeByReading_18 rfl (fun c18 => ?_) (fun c18 => ?_)
    · refine q_iconst F dX5_judgeByReading_32 hc_0 ?_
      exact (q_reti F hr rfl dX5_judgeByReading_33 (Nat.le_of_ble_eq_true rfl) (Nat.le_of_ble_eq_true rfl) ⟨_, rfl, hm, by first | exact Or.inl ⟨b2_0.mp c7, hM⟩ | exact Or.inr ⟨b2_n0 c7, rfl, hM⟩⟩)
    exact absurd c18 (by decide)
  refine q_iconst F dX5_judgeByReading_10 hc_0 ?_
  refine q_goto F 15 dX5_judgeByReading_11 rfl ?_
  refine q_callV_gi F (c_X5_holds hM) gX5_judgeByReading_X5_holds rfl hd_X5_holds ⟨Nat.le_of_ble_eq_true rfl, Nat.le_of_ble_eq_true rfl⟩ hM.1.1 rfl rfl rfl (Nat.le_of_ble_eq_true rfl) dX5_judgeByReading_15 ⟨Nat.le_of_ble_eq_true rfl, Nat.le_of_ble_eq_true rfl⟩ (fun r15 S15 hp15 => ?_)
  obtain ⟨rfl, hM, hm15⟩ := hp15
  have hm := hm.trans hm15
  refine q_cz ?_
  refine q_if_eq F 32 dX5_judgeByReading_18 rfl (fun c18 => ?_) (fun c18 => ?_)
  · exact absurd c18 (by decide)
  refine q_aload_n F 0 dX5_judgeByReading_21 rfl rfl ?_
  refine q_iload_n F 1 dX5_judgeByReading_22 rfl rfl ?_
  refine q_iload_n F 2 dX5_judgeByReading_23 rfl rfl ?_
  refine q_iload_n F 3 dX5_judgeByReading_24 rfl rfl ?_
  refine q_iconst F dX5_judgeByReading_25 hc_m1 ?_
  refine q_callV_i F (c_X5_judgement_n hM hn hn40 hsz hs hs20) gX5_judgeByReading_X5_judgement rfl hd_X5_judgement ⟨Nat.le_of_ble_eq_true rfl, Nat.le_of_ble_eq_true rfl⟩ hM.1.1 rfl rfl rfl (Nat.le_of_ble_eq_true rfl) dX5_judgeByReading_26 ⟨Nat.le_of_ble_eq_true rfl, Nat.le_of_ble_eq_true rfl⟩ ?_
  refine q_goto F 33 dX5_judgeByReading_29 rfl ?_
  exact (q_reti F hr rfl dX5_judgeByReading_33 (Nat.le_of_ble_eq_true rfl) (Nat.le_of_ble_eq_true rfl) ⟨_, rfl, hm, by first | exact Or.inl ⟨b2_0.mp c7, hM⟩ | exact Or.inr ⟨b2_n0 c7, rfl, hM⟩⟩)

set_option maxHeartbeats 4000000 in
set_option maxRecDepth 100000 in
theorem c_X5_answer_0 {l : Launch} {g : hG} {X : va_W} {S : hS} {md : Nat} {ar : Nat → Nat} {sc : Nat → Int32} {M : Nat → Nat → Int32} (hM : mS S md ar sc M) {nc : Nat} (hc : sc 17 = nI nc) (hc20 : nc ≤ 20) {name port key : Int32} {ct : Int32} (hA1 : okC ct nc = false) : hMet l yX5_answer wsX5_answer rm_X5_answer g X S [.ref md, .int name, .int port, .int key, .int ct] (mI S md ar 0 (va_up sc 0 1) M) := by
  refine h_start (maxL := 7) (ret := (some .int)) (by decide) rfl (Nat.le_of_ble_eq_true rfl) ?_
  intro p e s m args below meth c F hr hinit
  have hm := mdF.rf S
  refine q_aload_n F 0 dX5_answer_0 rfl rfl ?_
  refine q_iload_n F 1 dX5_answer_1 rfl rfl ?_
  refine q_iload_n F 2 dX5_answer_2 rfl rfl ?_
  refine q_iload_n F 3 dX5_answer_3 rfl rfl ?_
  refine q_iload F dX5_answer_4 rfl ?_
  refine q_callV_gi F (c_X5_isJudged_0 hM hc hc20 hA1) gX5_answer_X5_isJudged rfl hd_X5_isJudged ⟨Nat.le_of_ble_eq_true rfl, Nat.le_of_ble_eq_true rfl⟩ hM.1.1 rfl rfl rfl (Nat.le_of_ble_eq_true rfl) dX5_answer_6 ⟨Nat.le_of_ble_eq_true rfl, Nat.le_of_ble_eq_true rfl⟩ (fun r6 S6 hp6 => ?_)
  obtain ⟨rfl, hM, hm6⟩ := hp6
  have hm := hm.trans hm6
  refine q_if_ne F 14 dX5_answer_9 rfl (fun c9 => ?_) (fun c9 => ?_)
  · exact absurd c9 (by decide)
  refine q_iconst F dX5_answer_12 hc_0 ?_
  exact (q_reti F hr rfl dX5_answer_13 (Nat.le_of_ble_eq_true rfl) (Nat.le_of_ble_eq_true rfl) ⟨_, rfl, rfl, hM, hm⟩)

set_option maxHeartbeats 4000000 in
set_option maxRecDepth 100000 in
theorem c_X5_answer_1 {l : Launch} {g : hG} {X : va_W} {S : hS} {md : Nat} {ar : Nat → Nat} {sc : Nat → Int32} {M : Nat → Nat → Int32} (hM : mS S md ar sc M) {nc : Nat} (hc : sc 17 = nI nc) (hc20 : nc ≤ 20) {name port key : Int32} {ct : Int32} (hA1 : okC ct nc = true) (hB1 : (okNP name port && okK key) = false) : hMet l yX5_answer wsX5_answer rm_X5_answer g X S [.ref md, .int name, .int port, .int key, .int ct] (mI S md ar 0 (va_up sc 0 2) M) := by
  refine h_start (maxL := 7) (ret := (some .int)) (by decide) rfl (Nat.le_of_ble_eq_true rfl) ?_
  intro p e s m args below meth c F hr hinit
  have hm := mdF.rf S
  refine q_aload_n F 0 dX5_answer_0 rfl rfl ?_
  refine q_iload_n F 1 dX5_answer_1 rfl rfl ?_
  refine q_iload_n F 2 dX5_answer_2 rfl rfl ?_
  refine q_iload_n F 3 dX5_answer_3 rfl rfl ?_
  refine q_iload F dX5_answer_4 rfl ?_
  refine q_callV_gi F (c_X5_isJudged_1 hM hc hc20 hA1 hB1) gX5_answer_X5_isJudged rfl hd_X5_isJudged ⟨Nat.le_of_ble_eq_true rfl, Nat.le_of_ble_eq_true rfl⟩ hM.1.1 rfl rfl rfl (Nat.le_of_ble_eq_true rfl) dX5_answer_6 ⟨Nat.le_of_ble_eq_true rfl, Nat.le_of_ble_eq_true rfl⟩ (fun r6 S6 hp6 => ?_)
  obtain ⟨rfl, hM, hm6⟩ := hp6
  have hm := hm.trans hm6
  refine q_if_ne F 14 dX5_answer_9 rfl (fun c9 => ?_) (fun c9 => ?_)
  · exact absurd c9 (by decide)
  refine q_iconst F dX5_answer_12 hc_0 ?_
  exact (q_reti F hr rfl dX5_answer_13 (Nat.le_of_ble_eq_true rfl) (Nat.le_of_ble_eq_true rfl) ⟨_, rfl, rfl, hM, hm⟩)

