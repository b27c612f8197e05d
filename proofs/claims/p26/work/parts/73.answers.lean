set_option maxHeartbeats 4000000 in
set_option maxRecDepth 100000 in
theorem c_L_answers {l : Launch} {g : hG} {X : va_W} {S : hS} (hst : l.stackTraces = false) {h cA bk ca sa : Nat} {f : Nat → Int32} {ad pa : Nat → Nat} {sc : Nat → Int32} {M : Nat → Nat → Int32} {n nc ns : Nat} (hB : lB S h cA f bk ca sa ad pa sc M n nc ns) (hI : lI sc M n) (hcI : cI f sc M n nc ns) {N1 P1 K1 : Nat} (hN1 : N1 ≤ 9999) (hP1 : P1 ≤ 3) (hK1 : K1 ≤ 199) {co : Option Nat} (hco : ∀ c, co = some c → c < nc) : hMet l yL_answers wsL_answers rm_L_answers g X S [.ref h, .ref cA, .int (nI N1), .int (nI P1), .int (nI K1), .int (lCt co)] (pGI (fun r S' => r = 1 ∧ lW S' h cA)) := by
  refine h_start (maxL := 15) (ret := (some .boolean)) (by decide) rfl (Nat.le_of_ble_eq_true rfl) ?_
  intro p e s m args below meth c F hr hinit
  have h0 : f 0 = sc 1 := hcI.1
  have h1 : f 1 = nI n := hcI.2.1
  have h2 : f 2 = nI nc := hcI.2.2.1
  have h3 : f 3 = nI ns := hcI.2.2.2.1
  have h4 : f 4 = sc 2 := hcI.2.2.2.2.1
  have h6 : f 6 = sc 29 + 1 := hcI.2.2.2.2.2.1
  have hn40 := lB_n hB
  have hnc20 := lB_nc hB
  have hns20 := lB_ns hB
  have hNP : okNP (nI N1) (nI P1) = true := okNP_v hN1 hP1
  have hN : okN (nI N1) = true := okN_v hN1
  have hK : okK (nI K1) = true := okK_v hK1
  have hKs : ∀ i, i < n → okK (M 5 i) = true := hI.1.1
  have hMk : ∀ i, i < n → mkP (M 6 i) := fun i hi => (hI.2.2 i hi).1
  have hs4 : sc 4 = nI n := hB.2.1.1.2.1
  have hz := cC_sz hB.2.1
  have hJ := jcase (day := sc 1) (ns := ns) (name := nI N1) (port := nI P1) (key := nI K1) (co := co) (jI_key hI.1)
  refine q_aload_n F 0 dL_answers_0 rfl rfl ?_
  refine q_aload_n F 1 dL_answers_1 rfl rfl ?_
  refine q_iload_n F 2 dL_answers_2 rfl rfl ?_
  refine q_iload_n F 3 dL_answers_3 rfl rfl ?_
  refine q_iload F dL_answers_4 rfl ?_
  refine q_callS_i F (c_L_due hst hB hKs hMk h0 h1 hNP hK) gL_answers_L_due rfl hd_L_due ⟨Nat.le_of_ble_eq_true rfl, Nat.le_of_ble_eq_true rfl⟩ rfl rfl (Nat.le_of_ble_eq_true rfl) dL_answers_6 ⟨Nat.le_of_ble_eq_true rfl, Nat.le_of_ble_eq_true rfl⟩ ?_
  refine q_istore F dL_answers_9 (by decide) rfl ?_
  refine q_aload_n F 0 dL_answers_11 rfl rfl ?_
  refine q_iload_n F 2 dL_answers_12 rfl rfl ?_
  refine q_iload_n F 3 dL_answers_13 rfl rfl ?_
  refine q_iload F dL_answers_14 rfl ?_
  refine q_iload F dL_answers_16 rfl ?_
  refine q_callV_i F (n_judge hst hB hNP hK hco) gL_answers_X4_judge rfl hd_X4_judge ⟨Nat.le_of_ble_eq_true rfl, Nat.le_of_ble_eq_true rfl⟩ (lB_o hB) rfl rfl rfl (Nat.le_of_ble_eq_true rfl) dL_answers_18 ⟨Nat.le_of_ble_eq_true rfl, Nat.le_of_ble_eq_true rfl⟩ ?_
  refine q_istore F dL_answers_21 (by decide) rfl ?_
  refine q_cutB (tgt := 69) (st1 := []) (k := 244) (n := 1464) (.int 1) (fun K23 => ?_) ?_
  · refine q_iload F dL_answers_23 rfl ?_
    refine q_iload F dL_answers_25 rfl ?_
    refine q_icmp_eq F 64 dL_answers_27 rfl (fun c27 => ?_) (fun c27 => ?_)
    · refine q_iconst F dL_answers_64 hc_1 ?_
      refine q_goto F 69 dL_answers_65 rfl ?_
      exact q_widen (Nat.le_of_ble_eq_true rfl) (Nat.le_of_ble_eq_true rfl) K23
    refine q_iload F dL_answers_30 rfl ?_
    refine q_iconst F dL_answers_32 hc_m1 ?_
    refine q_icmp_eq F 68 dL_answers_33 rfl (fun c33 => ?_) (fun c33 => ?_)
    · exact absurd c33 (fun z => c27 (by have e := lCt_n1 hco hnc20 z; rw [e]; rfl))
    refine q_iload F dL_answers_36 rfl ?_
    refine q_if_eq F 64 dL_answers_38 rfl (fun c38 => ?_) (fun c38 => ?_)
    · refine q_iconst F dL_answers_64 hc_1 ?_
      refine q_goto F 69 dL_answers_65 rfl ?_
      exact q_widen (Nat.le_of_ble_eq_true rfl) (Nat.le_of_ble_eq_true rfl) K23
    obtain ⟨cx, hcx, hJ1, hp0, h19⟩ := jc hJ c27 c38
    refine q_iload F dL_answers_41 rfl ?_
    refine q_iconst F dL_answers_43 hc_1 ?_
    refine q_icmp_ne F 68 dL_answers_44 rfl (fun c44 => ?_) (fun c44 => ?_)
    · exact absurd c44 (not_not_intro hJ1)
    refine q_iload F dL_answers_47 rfl ?_
    refine q_if_eq F 68 dL_answers_49 rfl (fun c49 => ?_) (fun c49 => ?_)
    · exact absurd c49 hp0
    refine q_aload_n F 1 dL_answers_52 rfl rfl ?_
    refine q_bipush (v := 28) F dL_answers_53 (by decide) ?_
    refine q_iload F dL_answers_55 rfl ?_
    refine q_iadd F dL_answers_57 ?_
    refine q_top (v' := .int (nI (28 + cx))) ?_ (congrArg Value.int (by rw [hcx]; exact nI_add 28 cx))
    refine q_cld F hB (28 + cx) rfl (by have := hco cx hcx; omega) dL_answers_58 ?_
    refine q_top (v' := .int (M 19 cx)) ?_ (congrArg Value.int (hcI.2.2.2.2.2.2 cx (hco cx hcx)))
    refine q_iload F dL_answers_59 rfl ?_
    refine q_icmp_ne F 68 dL_answers_61 rfl (fun c61 => ?_) (fun c61 => ?_)
    · exact absurd c61 (not_not_intro h19)
    refine q_iconst F dL_answers_64 hc_1 ?_
    refine q_goto F 69 dL_answers_65 rfl ?_
    exact q_widen (Nat.le_of_ble_eq_true rfl) (Nat.le_of_ble_eq_true rfl) K23
  refine q_istore F dL_answers_69 (by decide) rfl ?_
  refine q_aload_n F 1 dL_answers_71 rfl rfl ?_
  refine q_iconst F dL_answers_72 hc_1 ?_
  refine q_cld F hB 1 rfl (by decide) dL_answers_73 ?_
  refine q_top (v' := .int (nI n)) ?_ (congrArg Value.int (h1))
  refine q_istore F dL_answers_74 (by decide) rfl ?_
  refine q_cutB (tgt := 100) (st1 := []) (k := 244) (n := 1464) (.int (b2 (aDv (lJg (sc 1) M n ns (nI N1) (nI P1) (nI K1) co) (sc 2) n))) (fun K76 => ?_) ?_
  · refine q_iload F dL_answers_76 rfl ?_
    refine q_iconst F dL_answers_78 hc_5 ?_
    refine q_icmp_ne F 99 dL_answers_79 rfl (fun c79 => ?_) (fun c79 => ?_)
    · refine q_iconst F dL_answers_99 hc_0 ?_
      exact (q_top K76 (congrArg Value.int (by first | exact ad_a c79 | exact ad_b c85 | exact ad_c c92 hn40 | exact ad_1 c79 c85 c92 hn40)))
    refine q_aload_n F 1 dL_answers_82 rfl rfl ?_
    refine q_iconst F dL_answers_83 hc_4 ?_
    refine q_cld F hB 4 rfl (by decide) dL_answers_84 ?_
    refine q_top (v' := .int (sc 2)) ?_ (congrArg Value.int (h4))
    refine q_if_ne F 99 dL_answers_85 rfl (fun c85 => ?_) (fun c85 => ?_)
    · refine q_iconst F dL_answers_99 hc_0 ?_
      exact (q_top K76 (congrArg Value.int (by first | exact ad_a c79 | exact ad_b c85 | exact ad_c c92 hn40 | exact ad_1 c79 c85 c92 hn40)))
    refine q_iload F dL_answers_88 rfl ?_
    refine q_bipush (v := 40) F dL_answers_90 (by decide) ?_
    refine q_icmp_ge F 99 dL_answers_92 rfl (fun c92 => ?_) (fun c92 => ?_)
    · refine q_iconst F dL_answers_99 hc_0 ?_
      exact (q_top K76 (congrArg Value.int (by first | exact ad_a c79 | exact ad_b c85 | exact ad_c c92 hn40 | exact ad_1 c79 c85 c92 hn40)))
    refine q_iconst F dL_answers_95 hc_1 ?_
    refine q_goto F 100 dL_answers_96 rfl ?_
    exact (q_top K76 (congrArg Value.int (by first | exact ad_a c79 | exact ad_b c85 | exact ad_c c92 hn40 | exact ad_1 c79 c85 c92 hn40)))
  refine q_istore F dL_answers_100 (by decide) rfl ?_
  refine q_cutB (tgt := 126) (st1 := []) (k := 244) (n := 1464) (.int (b2 (wDv (lJg (sc 1) M n ns (nI N1) (nI P1) (nI K1) co) (sc 2)))) (fun K102 => ?_) ?_
  · refine q_iload F dL_answers_102 rfl ?_
    refine q_iconst F dL_answers_104 hc_4 ?_
    refine q_icmp_eq F 121 dL_answers_105 rfl (fun c105 => ?_) (fun c105 => ?_)
    · refine q_iconst F dL_answers_121 hc_1 ?_
      refine q_goto F 126 dL_answers_122 rfl ?_
      exact (q_top K102 (congrArg Value.int (by first | exact wd_1 c105 | exact wd_a c105 c111 | exact wd_b c105 c118 | exact wd_2 c111 c118)))
    refine q_iload F dL_answers_108 rfl ?_
    refine q_iconst F dL_answers_110 hc_5 ?_
    refine q_icmp_ne F 125 dL_answers_111 rfl (fun c111 => ?_) (fun c111 => ?_)
    · refine q_iconst F dL_answers_125 hc_0 ?_
      exact (q_top K102 (congrArg Value.int (by first | exact wd_1 c105 | exact wd_a c105 c111 | exact wd_b c105 c118 | exact wd_2 c111 c118)))
    refine q_aload_n F 1 dL_answers_114 rfl rfl ?_
    refine q_iconst F dL_answers_115 hc_4 ?_
    refine q_cld F hB 4 rfl (by decide) dL_answers_116 ?_
    refine q_top (v' := .int (sc 2)) ?_ (congrArg Value.int (h4))
    refine q_iconst F dL_answers_117 hc_1 ?_
    refine q_icmp_ne F 125 dL_answers_118 rfl (fun c118 => ?_) (fun c118 => ?_)
    · refine q_iconst F dL_answers_125 hc_0 ?_
      exact (q_top K102 (congrArg Value.int (by first | exact wd_1 c105 | exact wd_a c105 c111 | exact wd_b c105 c118 | exact wd_2 c111 c118)))
    refine q_iconst F dL_answers_121 hc_1 ?_
    refine q_goto F 126 dL_answers_122 rfl ?_
    exact (q_top K102 (congrArg Value.int (by first | exact wd_1 c105 | exact wd_a c105 c111 | exact wd_b c105 c118 | exact wd_2 c111 c118)))
  refine q_istore F dL_answers_126 (by decide) rfl ?_
  refine q_aload_n F 1 dL_answers_128 rfl rfl ?_
  refine q_iconst F dL_answers_129 hc_1 ?_
  refine q_dup2 F dL_answers_130 rfl rfl ?_
  refine q_cld F hB 1 rfl (by decide) dL_answers_131 ?_
  refine q_top (v' := .int (nI n)) ?_ (congrArg Value.int (h1))
  refine q_cutB (tgt := 142) (st1 := [.int (nI n), .int 1, .ref cA]) (k := 244) (n := 1464) (.int (b2 (aDv (lJg (sc 1) M n ns (nI N1) (nI P1) (nI K1) co) (sc 2) n))) (fun K132 => ?_) ?_
  · refine q_iload F dL_answers_132 rfl ?_
    refine q_if_eq F 141 dL_answers_134 rfl (fun c134 => ?_) (fun c134 => ?_)
    · refine q_iconst F dL_answers_141 hc_0 ?_
      exact (q_top K132 (congrArg Value.int (by first | exact c134.symm | exact b2_one c134)))
    refine q_iconst F dL_answers_137 hc_1 ?_
    refine q_goto F 142 dL_answers_138 rfl ?_
    exact (q_top K132 (congrArg Value.int (by first | exact c134.symm | exact b2_one c134)))
  refine q_iadd F dL_answers_142 ?_
  refine q_top (v' := .int (nI (nAv n (aDv (lJg (sc 1) M n ns (nI N1) (nI P1) (nI K1) co) (sc 2) n)))) ?_ (congrArg Value.int (nI_b2))
  refine q_cst F hB 1 rfl (by decide) dL_answers_143 (fun S143 hB => ?_)
  refine q_aload_n F 1 dL_answers_144 rfl rfl ?_
  refine q_bipush (v := 6) F dL_answers_145 (by decide) ?_
  refine q_cutB (tgt := 160) (st1 := [.int 6, .ref cA]) (k := 244) (n := 1464) (.int (wVv (wDv (lJg (sc 1) M n ns (nI N1) (nI P1) (nI K1) co) (sc 2)) (nI K1) + 1)) (fun K147 => ?_) ?_
  · refine q_iload F dL_answers_147 rfl ?_
    refine q_if_eq F 159 dL_answers_149 rfl (fun c149 => ?_) (fun c149 => ?_)
    · refine q_iconst F dL_answers_159 hc_0 ?_
      exact (q_top K147 (congrArg Value.int (by first | exact wv_0 c149 | exact wv_1 c149)))
    refine q_iload F dL_answers_152 rfl ?_
    refine q_iconst F dL_answers_154 hc_1 ?_
    refine q_iadd F dL_answers_155 ?_
    refine q_goto F 160 dL_answers_156 rfl ?_
    exact (q_top K147 (congrArg Value.int (by first | exact wv_0 c149 | exact wv_1 c149)))
  refine q_cst F hB 6 rfl (by decide) dL_answers_160 (fun S160 hB => ?_)
  refine q_aload_n F 0 dL_answers_161 rfl rfl ?_
  refine q_iload_n F 2 dL_answers_162 rfl rfl ?_
  refine q_iload_n F 3 dL_answers_163 rfl rfl ?_
  refine q_iload F dL_answers_164 rfl ?_
  refine q_callV_i F (n_judgeByReading hst hB hNP hK) gL_answers_X4_judgeByReading rfl hd_X4_judgeByReading ⟨Nat.le_of_ble_eq_true rfl, Nat.le_of_ble_eq_true rfl⟩ (lB_o hB) rfl rfl rfl (Nat.le_of_ble_eq_true rfl) dL_answers_166 ⟨Nat.le_of_ble_eq_true rfl, Nat.le_of_ble_eq_true rfl⟩ ?_
  refine q_iload F dL_answers_169 rfl ?_
  refine q_icmp_ne F 230 dL_answers_171 rfl (fun c171 => ?_) (fun c171 => ?_)
  · exact absurd c171 (not_not_intro rfl)
  refine q_aload_n F 0 dL_answers_174 rfl rfl ?_
  refine q_iload_n F 2 dL_answers_175 rfl rfl ?_
  refine q_iload_n F 3 dL_answers_176 rfl rfl ?_
  refine q_iload F dL_answers_177 rfl ?_
  refine q_iconst F dL_answers_179 hc_m1 ?_
  refine q_callV_i F (n_judge_n hst hB hNP hK) gL_answers_X4_judge rfl hd_X4_judge ⟨Nat.le_of_ble_eq_true rfl, Nat.le_of_ble_eq_true rfl⟩ (lB_o hB) rfl rfl rfl (Nat.le_of_ble_eq_true rfl) dL_answers_180 ⟨Nat.le_of_ble_eq_true rfl, Nat.le_of_ble_eq_true rfl⟩ ?_
  refine q_iload F dL_answers_183 rfl ?_
  refine q_icmp_ne F 230 dL_answers_185 rfl (fun c185 => ?_) (fun c185 => ?_)
  · exact absurd c185 (not_not_intro rfl)
  refine q_aload_n F 0 dL_answers_188 rfl rfl ?_
  refine q_iload_n F 2 dL_answers_189 rfl rfl ?_
  refine q_iload_n F 3 dL_answers_190 rfl rfl ?_
  refine q_iload F dL_answers_191 rfl ?_
  refine q_iload F dL_answers_193 rfl ?_
  refine q_callV_gi F (n_answer hst hB hNP hK hco) gL_answers_X4_answer rfl hd_X4_answer ⟨Nat.le_of_ble_eq_true rfl, Nat.le_of_ble_eq_true rfl⟩ (lB_o hB) rfl rfl rfl (Nat.le_of_ble_eq_true rfl) dL_answers_195 ⟨Nat.le_of_ble_eq_true rfl, Nat.le_of_ble_eq_true rfl⟩ (fun r S195 hp => ?_)
  obtain ⟨sc1, M1, n1, rfl, hB, hI, hcI, hn1, hadd, hsee⟩ := ex_ans hp hI hcI hs4 hN hK hz
  refine q_iload F dL_answers_198 rfl ?_
  refine q_icmp_ne F 230 dL_answers_200 rfl (fun c200 => ?_) (fun c200 => ?_)
  · exact absurd c200 (not_not_intro rfl)
  refine q_aload_n F 0 dL_answers_203 rfl rfl ?_
  refine q_callV_i F (n_lines hB) gL_answers_X4_lines rfl hd_X4_lines ⟨Nat.le_of_ble_eq_true rfl, Nat.le_of_ble_eq_true rfl⟩ (lB_o hB) rfl rfl rfl (Nat.le_of_ble_eq_true rfl) dL_answers_204 ⟨Nat.le_of_ble_eq_true rfl, Nat.le_of_ble_eq_true rfl⟩ ?_
  refine q_aload_n F 1 dL_answers_207 rfl rfl ?_
  refine q_iconst F dL_answers_208 hc_1 ?_
  refine q_cld F hB 1 rfl (by decide) dL_answers_209 ?_
  refine q_top (v' := .int (nI n1)) ?_ (congrArg Value.int (hcI.2.1))
  refine q_icmp_ne F 230 dL_answers_210 rfl (fun c210 => ?_) (fun c210 => ?_)
  · exact absurd c210 (not_not_intro rfl)
  refine q_aload_n F 0 dL_answers_213 rfl rfl ?_
  refine q_callV_i F (n_waiting hB) gL_answers_X4_waiting rfl hd_X4_waiting ⟨Nat.le_of_ble_eq_true rfl, Nat.le_of_ble_eq_true rfl⟩ (lB_o hB) rfl rfl rfl (Nat.le_of_ble_eq_true rfl) dL_answers_214 ⟨Nat.le_of_ble_eq_true rfl, Nat.le_of_ble_eq_true rfl⟩ ?_
  refine q_aload_n F 1 dL_answers_217 rfl rfl ?_
  refine q_bipush (v := 6) F dL_answers_218 (by decide) ?_
  refine q_cld F hB 6 rfl (by decide) dL_answers_220 ?_
  refine q_top (v' := .int (sc1 29 + 1)) ?_ (congrArg Value.int (hcI.2.2.2.2.2.1))
  refine q_iconst F dL_answers_221 hc_1 ?_
  refine q_isub F dL_answers_222 ?_
  refine q_top (v' := .int (sc1 29)) ?_ (congrArg Value.int (Int32.add_sub_cancel (sc1 29) 1))
  refine q_icmp_ne F 230 dL_answers_223 rfl (fun c223 => ?_) (fun c223 => ?_)
  · exact absurd c223 (not_not_intro rfl)
  refine q_iconst F dL_answers_226 hc_1 ?_
  refine q_goto F 231 dL_answers_227 rfl ?_
  refine q_istore F dL_answers_231 (by decide) rfl ?_
  refine q_iload F dL_answers_233 rfl ?_
  refine q_if_eq F 304 dL_answers_235 rfl (fun c235 => ?_) (fun c235 => ?_)
  · exact absurd c235 (by decide)
  refine q_cutB (tgt := 305) (st1 := []) (k := 268) (n := 1606) (.int 1) (fun K238 => ?_) ?_
  · refine q_iload F dL_answers_238 rfl ?_
    refine q_if_eq F 300 dL_answers_240 rfl (fun c240 => ?_) (fun c240 => ?_)
    · refine q_iconst F dL_answers_300 hc_1 ?_
      refine q_goto F 305 dL_answers_301 rfl ?_
      exact q_widen (Nat.le_of_ble_eq_true rfl) (Nat.le_of_ble_eq_true rfl) K238
    obtain ⟨hn2, e5, e6, e7, e8, hmt, hj2⟩ := hadd (b2_n0 c240)
    have hj : n < n1 := by omega
    refine q_aload_n F 0 dL_answers_243 rfl rfl ?_
    refine q_iload F dL_answers_244 rfl ?_
    refine q_callV_i F (n_keyOf hst hB hj) gL_answers_X4_keyOf rfl hd_X4_keyOf ⟨Nat.le_of_ble_eq_true rfl, Nat.le_of_ble_eq_true rfl⟩ (lB_o hB) rfl rfl rfl (Nat.le_of_ble_eq_true rfl) dL_answers_246 ⟨Nat.le_of_ble_eq_true rfl, Nat.le_of_ble_eq_true rfl⟩ ?_
    refine q_iload F dL_answers_249 rfl ?_
    refine q_icmp_ne F 304 dL_answers_251 rfl (fun c251 => ?_) (fun c251 => ?_)
    · exact absurd c251 (not_not_intro (by rw [ko_0 e6]; exact e5))
    refine q_aload_n F 0 dL_answers_254 rfl rfl ?_
    refine q_iload F dL_answers_255 rfl ?_
    refine q_callV_i F (n_seen hst hB hj) gL_answers_X4_seen rfl hd_X4_seen ⟨Nat.le_of_ble_eq_true rfl, Nat.le_of_ble_eq_true rfl⟩ (lB_o hB) rfl rfl rfl (Nat.le_of_ble_eq_true rfl) dL_answers_257 ⟨Nat.le_of_ble_eq_true rfl, Nat.le_of_ble_eq_true rfl⟩ ?_
    refine q_aload_n F 1 dL_answers_260 rfl rfl ?_
    refine q_iconst F dL_answers_261 hc_0 ?_
    refine q_cld F hB 0 rfl (by decide) dL_answers_262 ?_
    refine q_top (v' := .int (sc1 1)) ?_ (congrArg Value.int (hcI.1))
    refine q_icmp_ne F 304 dL_answers_263 rfl (fun c263 => ?_) (fun c263 => ?_)
    · exact absurd c263 (not_not_intro e7)
    refine q_aload_n F 0 dL_answers_266 rfl rfl ?_
    refine q_iload F dL_answers_267 rfl ?_
    refine q_callV_i F (n_end hst hB hj) gL_answers_X4_end rfl hd_X4_end ⟨Nat.le_of_ble_eq_true rfl, Nat.le_of_ble_eq_true rfl⟩ (lB_o hB) rfl rfl rfl (Nat.le_of_ble_eq_true rfl) dL_answers_269 ⟨Nat.le_of_ble_eq_true rfl, Nat.le_of_ble_eq_true rfl⟩ ?_
    refine q_iconst F dL_answers_272 hc_m1 ?_
    refine q_icmp_ne F 304 dL_answers_273 rfl (fun c273 => ?_) (fun c273 => ?_)
    · exact absurd c273 (not_not_intro e8)
    refine q_aload_n F 0 dL_answers_276 rfl rfl ?_
    refine q_iload F dL_answers_277 rfl ?_
    refine q_iload_n F 2 dL_answers_279 rfl rfl ?_
    refine q_iload_n F 3 dL_answers_280 rfl rfl ?_
    refine q_callV_i F (n_matches hst hB hj hNP) gL_answers_X4_matches rfl hd_X4_matches ⟨Nat.le_of_ble_eq_true rfl, Nat.le_of_ble_eq_true rfl⟩ (lB_o hB) rfl rfl rfl (Nat.le_of_ble_eq_true rfl) dL_answers_281 ⟨Nat.le_of_ble_eq_true rfl, Nat.le_of_ble_eq_true rfl⟩ ?_
    refine q_if_eq F 304 dL_answers_284 rfl (fun c284 => ?_) (fun c284 => ?_)
    · exact absurd c284 (b2_1 hmt)
    refine q_aload_n F 0 dL_answers_287 rfl rfl ?_
    refine q_iload_n F 2 dL_answers_288 rfl rfl ?_
    refine q_iload_n F 3 dL_answers_289 rfl rfl ?_
    refine q_iload F dL_answers_290 rfl ?_
    refine q_iconst F dL_answers_292 hc_m1 ?_
    refine q_callV_i F (n_judge_n hst hB hNP hK) gL_answers_X4_judge rfl hd_X4_judge ⟨Nat.le_of_ble_eq_true rfl, Nat.le_of_ble_eq_true rfl⟩ (lB_o hB) rfl rfl rfl (Nat.le_of_ble_eq_true rfl) dL_answers_293 ⟨Nat.le_of_ble_eq_true rfl, Nat.le_of_ble_eq_true rfl⟩ ?_
    refine q_iconst F dL_answers_296 hc_2 ?_
    refine q_icmp_ne F 304 dL_answers_297 rfl (fun c297 => ?_) (fun c297 => ?_)
    · exact absurd c297 (not_not_intro hj2)
    refine q_iconst F dL_answers_300 hc_1 ?_
    refine q_goto F 305 dL_answers_301 rfl ?_
    exact q_widen (Nat.le_of_ble_eq_true rfl) (Nat.le_of_ble_eq_true rfl) K238
  refine q_istore F dL_answers_305 (by decide) rfl ?_
  refine q_iconst F dL_answers_307 hc_0 ?_
  refine q_istore F dL_answers_308 (by decide) rfl ?_
  have L : ∀ (r j cells slots : Nat), j + r = n1 → cells + 7 * r ≤ 548 → slots + 42 * r ≤ 3286 → V p l e rm_L_answers s m args below meth c 15 g X (MQ below (hQ g X (pGI (fun r S' => r = 1 ∧ lW S' h cA))) args s rm_L_answers.cells rm_L_answers.slots (hA g)) S195 cells slots [(0, .ref h), (1, .ref cA), (2, .int (nI N1)), (3, .int (nI P1)), (4, .int (nI K1)), (7, .int (lJg (sc 1) M n ns (nI N1) (nI P1) (nI K1) co)), (8, .int 1), (12, .int 1), (13, .int (nI j))] 310 [] := by
    intro r
    induction r with
    | zero =>
      intro j cells slots hjr hcz hsz
      have hjn : j = n1 := by omega
      have hc1 : cells + 0 ≤ rm_L_answers.cells := Nat.le_trans (show cells + 0 ≤ 548 by omega) (Nat.le_of_ble_eq_true rfl)
      have hs1 : slots + 0 ≤ rm_L_answers.slots := Nat.le_trans (show slots + 0 ≤ 3286 by omega) (Nat.le_of_ble_eq_true rfl)
      refine q_iload F dL_answers_310 rfl ?_
      refine q_aload_n F 1 dL_answers_312 rfl rfl ?_
      refine q_iconst F dL_answers_313 hc_1 ?_
      refine q_cld F hB 1 rfl (by decide) dL_answers_314 ?_
      refine q_top (v' := .int (nI n1)) ?_ (congrArg Value.int (hcI.2.1))
      refine q_icmp_ge F 410 dL_answers_315 rfl (fun c315 => ?_) (fun c315 => ?_)
      · refine q_iload F dL_answers_410 rfl ?_
        refine q_if_eq F 424 dL_answers_412 rfl (fun c412 => ?_) (fun c412 => ?_)
        · exact absurd c412 (by decide)
        refine q_iload F dL_answers_415 rfl ?_
        refine q_if_eq F 424 dL_answers_417 rfl (fun c417 => ?_) (fun c417 => ?_)
        · exact absurd c417 (by decide)
        refine q_iconst F dL_answers_420 hc_1 ?_
        refine q_goto F 425 dL_answers_421 rfl ?_
        exact (q_reti F hr rfl dL_answers_425 (Nat.le_trans lw_b0 hc1) (Nat.le_trans lw_b0 hs1) ⟨1, rfl, rfl, _, _, _, _, _, _, _, _, _, _, _, hB, hI, hcI⟩)
      exact absurd c315 (gT rfl rfl (show n1 ≤ j by omega) (by omega))
    | succ r ih =>
      intro j cells slots hjr hcz hsz
      have hj : j < n1 := by omega
      have hc1 : cells + 7 ≤ rm_L_answers.cells := Nat.le_trans (show cells + 7 ≤ 548 by omega) (Nat.le_of_ble_eq_true rfl)
      have hs1 : slots + 42 ≤ rm_L_answers.slots := Nat.le_trans (show slots + 42 ≤ 3286 by omega) (Nat.le_of_ble_eq_true rfl)
      refine q_iload F dL_answers_310 rfl ?_
      refine q_aload_n F 1 dL_answers_312 rfl rfl ?_
      refine q_iconst F dL_answers_313 hc_1 ?_
      refine q_cld F hB 1 rfl (by decide) dL_answers_314 ?_
      refine q_top (v' := .int (nI n1)) ?_ (congrArg Value.int (hcI.2.1))
      refine q_icmp_ge F 410 dL_answers_315 rfl (fun c315 => ?_) (fun c315 => ?_)
      · exact absurd c315 (gF rfl rfl hj (by omega))
      refine q_iload F dL_answers_318 rfl ?_
      refine q_if_eq F 410 dL_answers_320 rfl (fun c320 => ?_) (fun c320 => ?_)
      · exact absurd c320 (by decide)
      refine q_iload F dL_answers_323 rfl ?_
      refine q_iconst F dL_answers_325 hc_2 ?_
      refine q_icmp_ne F 410 dL_answers_326 rfl (fun c326 => ?_) (fun c326 => ?_)
      · refine q_iload F dL_answers_410 rfl ?_
        refine q_if_eq F 424 dL_answers_412 rfl (fun c412 => ?_) (fun c412 => ?_)
        · exact absurd c412 (by decide)
        refine q_iload F dL_answers_415 rfl ?_
        refine q_if_eq F 424 dL_answers_417 rfl (fun c417 => ?_) (fun c417 => ?_)
        · exact absurd c417 (by decide)
        refine q_iconst F dL_answers_420 hc_1 ?_
        refine q_goto F 425 dL_answers_421 rfl ?_
        exact (q_reti F hr rfl dL_answers_425 (Nat.le_trans lw_b0 hc1) (Nat.le_trans lw_b0 hs1) ⟨1, rfl, rfl, _, _, _, _, _, _, _, _, _, _, _, hB, hI, hcI⟩)
      refine q_aload_n F 0 dL_answers_329 rfl rfl ?_
      refine q_iload F dL_answers_330 rfl ?_
      refine q_callV_i F (n_end hst hB hj) gL_answers_X4_end rfl hd_X4_end ⟨Nat.le_of_ble_eq_true rfl, Nat.le_of_ble_eq_true rfl⟩ (lB_o hB) rfl rfl rfl (Nat.le_of_ble_eq_true rfl) dL_answers_332 ⟨Nat.le_trans (lw_b1 (Nat.le_of_ble_eq_true rfl)) hc1, Nat.le_trans (lw_b1 (Nat.le_of_ble_eq_true rfl)) hs1⟩ ?_
      refine q_iconst F dL_answers_335 hc_m1 ?_
      refine q_cutB (tgt := 356) (st1 := []) (k := cells + 2) (n := slots + 12) (.int (b2 (en (sc1 1) (M1 8 j)))) (fun K336 => ?_) ?_
      · refine q_icmp_eq F 355 dL_answers_336 rfl (fun c336 => ?_) (fun c336 => ?_)
        · refine q_iconst F dL_answers_355 hc_0 ?_
          exact q_widen (lw_b1 (Nat.le_of_ble_eq_true rfl)) (lw_b1 (Nat.le_of_ble_eq_true rfl)) (q_top K336 (congrArg Value.int (by first | exact en_f1 c336 | exact en_f2 c348 | exact en_t c336 c348)))
        refine q_aload_n F 0 dL_answers_339 rfl rfl ?_
        refine q_iload F dL_answers_340 rfl ?_
        refine q_callV_i F (n_end hst hB hj) gL_answers_X4_end rfl hd_X4_end ⟨Nat.le_of_ble_eq_true rfl, Nat.le_of_ble_eq_true rfl⟩ (lB_o hB) rfl rfl rfl (Nat.le_of_ble_eq_true rfl) dL_answers_342 ⟨Nat.le_trans (lw_b2 (Nat.le_of_ble_eq_true rfl)) hc1, Nat.le_trans (lw_b2 (Nat.le_of_ble_eq_true rfl)) hs1⟩ ?_
        refine q_aload_n F 1 dL_answers_345 rfl rfl ?_
        refine q_iconst F dL_answers_346 hc_0 ?_
        refine q_cld F hB 0 rfl (by decide) dL_answers_347 ?_
        refine q_top (v' := .int (sc1 1)) ?_ (congrArg Value.int (hcI.1))
        refine q_icmp_gt F 355 dL_answers_348 rfl (fun c348 => ?_) (fun c348 => ?_)
        · refine q_iconst F dL_answers_355 hc_0 ?_
          exact q_widen (lw_b2 (Nat.le_of_ble_eq_true rfl)) (lw_b2 (Nat.le_of_ble_eq_true rfl)) (q_top K336 (congrArg Value.int (by first | exact en_f1 c336 | exact en_f2 c348 | exact en_t c336 c348)))
        refine q_iconst F dL_answers_351 hc_1 ?_
        refine q_goto F 356 dL_answers_352 rfl ?_
        exact q_widen (lw_b2 (Nat.le_of_ble_eq_true rfl)) (lw_b2 (Nat.le_of_ble_eq_true rfl)) (q_top K336 (congrArg Value.int (by first | exact en_f1 c336 | exact en_f2 c348 | exact en_t c336 c348)))
      refine q_istore F dL_answers_356 (by decide) rfl ?_
      refine q_cutB (tgt := 402) (st1 := []) (k := cells + 7) (n := slots + 42) (.int 1) (fun K358 => ?_) ?_
      · refine q_aload_n F 0 dL_answers_358 rfl rfl ?_
        refine q_iload F dL_answers_359 rfl ?_
        refine q_callV_i F (n_keyOf hst hB hj) gL_answers_X4_keyOf rfl hd_X4_keyOf ⟨Nat.le_of_ble_eq_true rfl, Nat.le_of_ble_eq_true rfl⟩ (lB_o hB) rfl rfl rfl (Nat.le_of_ble_eq_true rfl) dL_answers_361 ⟨Nat.le_trans (lw_b2 (Nat.le_of_ble_eq_true rfl)) hc1, Nat.le_trans (lw_b2 (Nat.le_of_ble_eq_true rfl)) hs1⟩ ?_
        refine q_iload F dL_answers_364 rfl ?_
        refine q_icmp_ne F 397 dL_answers_366 rfl (fun c366 => ?_) (fun c366 => ?_)
        · refine q_iconst F dL_answers_397 hc_1 ?_
          refine q_goto F 402 dL_answers_398 rfl ?_
          exact q_widen (lw_b2 (Nat.le_of_ble_eq_true rfl)) (lw_b2 (Nat.le_of_ble_eq_true rfl)) K358
        refine q_iload F dL_answers_369 rfl ?_
        refine q_if_ne F 397 dL_answers_371 rfl (fun c371 => ?_) (fun c371 => ?_)
        · refine q_iconst F dL_answers_397 hc_1 ?_
          refine q_goto F 402 dL_answers_398 rfl ?_
          exact q_widen (lw_b2 (Nat.le_of_ble_eq_true rfl)) (lw_b2 (Nat.le_of_ble_eq_true rfl)) K358
        refine q_aload_n F 0 dL_answers_374 rfl rfl ?_
        refine q_iload F dL_answers_375 rfl ?_
        refine q_iload_n F 2 dL_answers_377 rfl rfl ?_
        refine q_iload_n F 3 dL_answers_378 rfl rfl ?_
        refine q_callV_i F (n_matches hst hB hj hNP) gL_answers_X4_matches rfl hd_X4_matches ⟨Nat.le_of_ble_eq_true rfl, Nat.le_of_ble_eq_true rfl⟩ (lB_o hB) rfl rfl rfl (Nat.le_of_ble_eq_true rfl) dL_answers_379 ⟨Nat.le_trans (lw_b3 (Nat.le_of_ble_eq_true rfl)) hc1, Nat.le_trans (lw_b3 (Nat.le_of_ble_eq_true rfl)) hs1⟩ ?_
        refine q_if_eq F 397 dL_answers_382 rfl (fun c382 => ?_) (fun c382 => ?_)
        · refine q_iconst F dL_answers_397 hc_1 ?_
          refine q_goto F 402 dL_answers_398 rfl ?_
          exact q_widen (lw_b3 (Nat.le_of_ble_eq_true rfl)) (lw_b3 (Nat.le_of_ble_eq_true rfl)) K358
        refine q_aload_n F 0 dL_answers_385 rfl rfl ?_
        refine q_iload F dL_answers_386 rfl ?_
        refine q_callV_i F (n_seen hst hB hj) gL_answers_X4_seen rfl hd_X4_seen ⟨Nat.le_of_ble_eq_true rfl, Nat.le_of_ble_eq_true rfl⟩ (lB_o hB) rfl rfl rfl (Nat.le_of_ble_eq_true rfl) dL_answers_388 ⟨Nat.le_trans (lw_b4 (Nat.le_of_ble_eq_true rfl)) hc1, Nat.le_trans (lw_b4 (Nat.le_of_ble_eq_true rfl)) hs1⟩ ?_
        refine q_aload_n F 1 dL_answers_391 rfl rfl ?_
        refine q_iconst F dL_answers_392 hc_0 ?_
        refine q_cld F hB 0 rfl (by decide) dL_answers_393 ?_
        refine q_top (v' := .int (sc1 1)) ?_ (congrArg Value.int (hcI.1))
        refine q_icmp_ne F 401 dL_answers_394 rfl (fun c394 => ?_) (fun c394 => ?_)
        · exact absurd c394 (not_not_intro (hsee c326 j hj c366 (b2_0.mp c371) (b2_n0 c382)))
        refine q_iconst F dL_answers_397 hc_1 ?_
        refine q_goto F 402 dL_answers_398 rfl ?_
        exact q_widen (lw_b4 (Nat.le_of_ble_eq_true rfl)) (lw_b4 (Nat.le_of_ble_eq_true rfl)) K358
      refine q_istore F dL_answers_402 (by decide) rfl ?_
      refine q_iinc F (nI (j + 1)) dL_answers_404 rfl (nI_inc j) (by decide) rfl ?_
      refine q_goto F 310 dL_answers_407 rfl ?_
      exact q_widen (lw_b1 (Nat.le_of_ble_eq_true rfl)) (lw_b1 (Nat.le_of_ble_eq_true rfl)) (q_to (ih (j + 1) (cells + 7) (slots + 42) (by omega) (by omega) (by omega)) ⟨rfl, rfl, rfl, rfl, rfl, rfl, rfl, rfl, rfl, trivial⟩)
  exact q_to (L n1 0 268 1606 (by omega) (by omega) (by omega)) ⟨rfl, rfl, rfl, rfl, rfl, rfl, rfl, rfl, rfl, trivial⟩

