set_option maxHeartbeats 4000000 in
set_option maxRecDepth 100000 in
theorem c_L_adds {l : Launch} {g : hG} {X : va_W} {S : hS} (hst : l.stackTraces = false) {h cA bk ca sa : Nat} {f : Nat → Int32} {ad pa : Nat → Nat} {sc : Nat → Int32} {M : Nat → Nat → Int32} {n nc ns : Nat} (hB : lB S h cA f bk ca sa ad pa sc M n nc ns) (hI : lI sc M n) (hcI : cI f sc M n nc ns) {A B : Nat} (hA1 : A < 2 ^ 31) (hb2 : B < 2 ^ 31) {N1 P1 K1 : Nat} (hN1 : N1 ≤ 9999) (hP1 : P1 ≤ 1) (hK1 : K1 ≤ 199) (hn : n < 40) : hMet l yL_adds wsL_adds rm_L_adds g X S [.ref h, .ref cA, .int (nI A), .int (nI B), .int (nI N1), .int (nI P1), .int (nI K1)] (pGI (fun r S' => r = 1 ∧ lW S' h cA)) := by
  refine h_start (maxL := 13) (ret := (some .boolean)) (by decide) rfl (Nat.le_of_ble_eq_true rfl) ?_
  intro p e s m args below meth c F hr hinit
  have h1 : f 1 = nI n := hcI.2.1
  have hNP : okNP (nI N1) (nI P1) = true := okNP_v hN1 (by omega)
  have hNP2 : okNP (nI N1) (nI (P1 + 2)) = true := okNP_v hN1 (by omega)
  have hNP3 : okNP (nI N1) 3 = true := okNP_v (y := 3) hN1 (by decide)
  have hK : okK (nI K1) = true := okK_v hK1
  have hmk : inR (nI (mkN B)) 0 2 = true := inR_nI (a := 0) (b := 2) (Nat.zero_le _) (mkN_le B) (by decide)
  have hpl : inR (nI (B / 14 % 16)) 0 15 = true := inR_nI (a := 0) (b := 15) (Nat.zero_le _) (by omega) (by decide)
  have hj : n < n + 1 := Nat.lt_succ_self n
  have hp2 : ¬ nI P1 = nI (P1 + 2) := by rw [nI_eq (by omega) (by omega)]; omega
  have n3 : nI 3 = (3 : Int32) := rfl
  have hp3 : ¬ nI P1 = 3 := by rw [show (3 : Int32) = nI 3 from rfl, nI_eq (by omega) (by decide)]; omega
  refine q_aload_n F 1 dL_adds_0 rfl rfl ?_
  refine q_iconst F dL_adds_1 hc_1 ?_
  refine q_cld F hB 1 rfl (by decide) dL_adds_2 ?_
  refine q_top (v' := .int (nI n)) ?_ (congrArg Value.int (h1))
  refine q_istore F dL_adds_3 (by decide) rfl ?_
  refine q_cutB (tgt := 29) (st1 := []) (k := 0) (n := 0) (.int (nI (mkN B))) (fun K5 => ?_) ?_
  · refine q_iload_n F 3 dL_adds_5 rfl rfl ?_
    refine q_bipush (v := 7) F dL_adds_6 (by decide) ?_
    refine q_irem F dL_adds_8 (by decide) ?_
    refine q_if_ne F 16 dL_adds_9 rfl (fun c9 => ?_) (fun c9 => ?_)
    · refine q_iload_n F 3 dL_adds_16 rfl rfl ?_
      refine q_bipush (v := 7) F dL_adds_17 (by decide) ?_
      refine q_irem F dL_adds_19 (by decide) ?_
      refine q_iconst F dL_adds_20 hc_1 ?_
      refine q_icmp_ne F 28 dL_adds_21 rfl (fun c21 => ?_) (fun c21 => ?_)
      · refine q_iconst F dL_adds_28 hc_0 ?_
        exact (q_top K5 (congrArg Value.int (by first | exact mkN_0 hb2 c9 | exact mkN_1 hb2 c9 c21 | exact mkN_2 hb2 c9 c21)))
      refine q_iconst F dL_adds_24 hc_2 ?_
      refine q_goto F 29 dL_adds_25 rfl ?_
      exact (q_top K5 (congrArg Value.int (by first | exact mkN_0 hb2 c9 | exact mkN_1 hb2 c9 c21 | exact mkN_2 hb2 c9 c21)))
    refine q_iconst F dL_adds_12 hc_1 ?_
    refine q_goto F 29 dL_adds_13 rfl ?_
    exact (q_top K5 (congrArg Value.int (by first | exact mkN_0 hb2 c9 | exact mkN_1 hb2 c9 c21 | exact mkN_2 hb2 c9 c21)))
  refine q_istore F dL_adds_29 (by decide) rfl ?_
  refine q_iload_n F 3 dL_adds_31 rfl rfl ?_
  refine q_bipush (v := 14) F dL_adds_32 (by decide) ?_
  refine q_idiv F dL_adds_34 (by decide) ?_
  refine q_bipush (v := 16) F dL_adds_35 (by decide) ?_
  refine q_irem F dL_adds_37 (by decide) ?_
  refine q_top (v' := .int (nI (B / 14 % 16))) ?_ (congrArg Value.int (by rw [show (14 : Int32) = nI 14 from rfl, pk_div hb2 (by decide) (by decide)]; exact nI_mod (d := 16) (by omega) (by decide) (by decide)))
  refine q_istore F dL_adds_38 (by decide) rfl ?_
  refine q_aload_n F 1 dL_adds_40 rfl rfl ?_
  refine q_iconst F dL_adds_41 hc_1 ?_
  refine q_dup2 F dL_adds_42 rfl rfl ?_
  refine q_cld F hB 1 rfl (by decide) dL_adds_43 ?_
  refine q_top (v' := .int (nI n)) ?_ (congrArg Value.int (h1))
  refine q_iconst F dL_adds_44 hc_1 ?_
  refine q_iadd F dL_adds_45 ?_
  refine q_top (v' := .int (nI (n + 1))) ?_ (congrArg Value.int (nI_1 n))
  refine q_cst F hB 1 rfl (by decide) dL_adds_46 (fun S46 hB => ?_)
  refine q_aload_n F 0 dL_adds_47 rfl rfl ?_
  refine q_iload F dL_adds_48 rfl ?_
  refine q_iload F dL_adds_50 rfl ?_
  refine q_callV_gi F (n_addLine hst hB hmk hK hn) gL_adds_X4_addLine rfl hd_X4_addLine ⟨Nat.le_of_ble_eq_true rfl, Nat.le_of_ble_eq_true rfl⟩ (lB_o hB) rfl rfl rfl (Nat.le_of_ble_eq_true rfl) dL_adds_52 ⟨Nat.le_of_ble_eq_true rfl, Nat.le_of_ble_eq_true rfl⟩ (fun r S52 hp => ?_)
  obtain ⟨sc1, M1, rfl, hB, hI, hcI, hP, e5, e6, e7, e8⟩ := ex_add hp hI hcI (mkN_P B) hK
  refine q_iload F dL_adds_55 rfl ?_
  refine q_icmp_ne F 133 dL_adds_57 rfl (fun c57 => ?_) (fun c57 => ?_)
  · exact absurd c57 (not_not_intro rfl)
  refine q_aload_n F 0 dL_adds_60 rfl rfl ?_
  refine q_iload F dL_adds_61 rfl ?_
  refine q_callV_i F (n_keyOf hst hB hj) gL_adds_X4_keyOf rfl hd_X4_keyOf ⟨Nat.le_of_ble_eq_true rfl, Nat.le_of_ble_eq_true rfl⟩ (lB_o hB) rfl rfl rfl (Nat.le_of_ble_eq_true rfl) dL_adds_63 ⟨Nat.le_of_ble_eq_true rfl, Nat.le_of_ble_eq_true rfl⟩ ?_
  refine q_sipush (v := 1000) F dL_adds_66 (by decide) ?_
  refine q_iload F dL_adds_69 rfl ?_
  refine q_imul F dL_adds_71 ?_
  refine q_iload F dL_adds_72 rfl ?_
  refine q_iadd F dL_adds_74 ?_
  refine q_icmp_ne F 133 dL_adds_75 rfl (fun c75 => ?_) (fun c75 => ?_)
  · exact absurd c75 (not_not_intro (by rw [e6, e5]))
  refine q_aload_n F 0 dL_adds_78 rfl rfl ?_
  refine q_iload F dL_adds_79 rfl ?_
  refine q_callV_i F (n_seen hst hB hj) gL_adds_X4_seen rfl hd_X4_seen ⟨Nat.le_of_ble_eq_true rfl, Nat.le_of_ble_eq_true rfl⟩ (lB_o hB) rfl rfl rfl (Nat.le_of_ble_eq_true rfl) dL_adds_81 ⟨Nat.le_of_ble_eq_true rfl, Nat.le_of_ble_eq_true rfl⟩ ?_
  refine q_aload_n F 1 dL_adds_84 rfl rfl ?_
  refine q_iconst F dL_adds_85 hc_0 ?_
  refine q_cld F hB 0 rfl (by decide) dL_adds_86 ?_
  refine q_top (v' := .int (sc1 1)) ?_ (congrArg Value.int (hcI.1))
  refine q_icmp_ne F 133 dL_adds_87 rfl (fun c87 => ?_) (fun c87 => ?_)
  · exact absurd c87 (not_not_intro e7)
  refine q_aload_n F 0 dL_adds_90 rfl rfl ?_
  refine q_iload F dL_adds_91 rfl ?_
  refine q_callV_i F (n_end hst hB hj) gL_adds_X4_end rfl hd_X4_end ⟨Nat.le_of_ble_eq_true rfl, Nat.le_of_ble_eq_true rfl⟩ (lB_o hB) rfl rfl rfl (Nat.le_of_ble_eq_true rfl) dL_adds_93 ⟨Nat.le_of_ble_eq_true rfl, Nat.le_of_ble_eq_true rfl⟩ ?_
  refine q_iconst F dL_adds_96 hc_m1 ?_
  refine q_icmp_ne F 133 dL_adds_97 rfl (fun c97 => ?_) (fun c97 => ?_)
  · exact absurd c97 (not_not_intro e8)
  refine q_aload_n F 0 dL_adds_100 rfl rfl ?_
  refine q_iload F dL_adds_101 rfl ?_
  refine q_iload F dL_adds_103 rfl ?_
  refine q_iload F dL_adds_105 rfl ?_
  refine q_callV_i F (n_matches hst hB hj hNP) gL_adds_X4_matches rfl hd_X4_matches ⟨Nat.le_of_ble_eq_true rfl, Nat.le_of_ble_eq_true rfl⟩ (lB_o hB) rfl rfl rfl (Nat.le_of_ble_eq_true rfl) dL_adds_107 ⟨Nat.le_of_ble_eq_true rfl, Nat.le_of_ble_eq_true rfl⟩ ?_
  refine q_if_ne F 133 dL_adds_110 rfl (fun c110 => ?_) (fun c110 => ?_)
  · exact absurd c110 (not_not_intro (b2_z (by rw [lP_mt hP]; rfl)))
  refine q_aload_n F 0 dL_adds_113 rfl rfl ?_
  refine q_iload F dL_adds_114 rfl ?_
  refine q_callV_l F (n_linesOf hst hB hK) gL_adds_X4_linesOf rfl hd_X4_linesOf ⟨Nat.le_of_ble_eq_true rfl, Nat.le_of_ble_eq_true rfl⟩ (lB_o hB) rfl rfl rfl (Nat.le_of_ble_eq_true rfl) dL_adds_116 ⟨Nat.le_of_ble_eq_true rfl, Nat.le_of_ble_eq_true rfl⟩ ?_
  refine q_iload F dL_adds_119 rfl ?_
  refine q_lshr F dL_adds_121 ?_
  refine q_lconst (v := 1) F dL_adds_122 (by decide) ?_
  refine q_land F dL_adds_123 ?_
  refine q_lconst (v := 1) F dL_adds_124 (by decide) ?_
  refine q_lcmp F (bit_last (by exact decide_eq_true e5) hn) dL_adds_125 ?_
  refine q_if_ne F 133 dL_adds_126 rfl (fun c126 => ?_) (fun c126 => ?_)
  · exact absurd c126 (by decide)
  refine q_iconst F dL_adds_129 hc_1 ?_
  refine q_goto F 134 dL_adds_130 rfl ?_
  refine q_istore F dL_adds_134 (by decide) rfl ?_
  refine q_iload F dL_adds_136 rfl ?_
  refine q_if_eq F 211 dL_adds_138 rfl (fun c138 => ?_) (fun c138 => ?_)
  · exact absurd c138 (by decide)
  refine q_aload_n F 0 dL_adds_141 rfl rfl ?_
  refine q_iload F dL_adds_142 rfl ?_
  refine q_iload F dL_adds_144 rfl ?_
  refine q_iload F dL_adds_146 rfl ?_
  refine q_iload F dL_adds_148 rfl ?_
  refine q_iconst F dL_adds_150 hc_0 ?_
  refine q_callV_gi F (n_addPattern hst hB hj (Or.inl rfl) hNP hpl (lP_ok hP (by decide))) gL_adds_X4_addPattern rfl hd_X4_addPattern ⟨Nat.le_of_ble_eq_true rfl, Nat.le_of_ble_eq_true rfl⟩ (lB_o hB) rfl rfl rfl (Nat.le_of_ble_eq_true rfl) dL_adds_151 ⟨Nat.le_of_ble_eq_true rfl, Nat.le_of_ble_eq_true rfl⟩ (fun r S151 hp => ?_)
  obtain ⟨M2, rfl, hB, hI, hcI, hP⟩ := ex_pa hp hI hcI hP (by decide)
  refine q_iconst F dL_adds_154 hc_1 ?_
  refine q_icmp_ne F 211 dL_adds_155 rfl (fun c155 => ?_) (fun c155 => ?_)
  · exact absurd c155 (by decide)
  refine q_aload_n F 0 dL_adds_158 rfl rfl ?_
  refine q_iload F dL_adds_159 rfl ?_
  refine q_iload F dL_adds_161 rfl ?_
  refine q_iload F dL_adds_163 rfl ?_
  refine q_callV_i F (n_matches hst hB hj hNP) gL_adds_X4_matches rfl hd_X4_matches ⟨Nat.le_of_ble_eq_true rfl, Nat.le_of_ble_eq_true rfl⟩ (lB_o hB) rfl rfl rfl (Nat.le_of_ble_eq_true rfl) dL_adds_165 ⟨Nat.le_of_ble_eq_true rfl, Nat.le_of_ble_eq_true rfl⟩ ?_
  refine q_if_eq F 211 dL_adds_168 rfl (fun c168 => ?_) (fun c168 => ?_)
  · exact absurd c168 (b2_1 (by rw [lP_mt hP]; simp [like_self, like_zero]))
  refine q_aload_n F 0 dL_adds_171 rfl rfl ?_
  refine q_iload F dL_adds_172 rfl ?_
  refine q_iload F dL_adds_174 rfl ?_
  refine q_iload F dL_adds_176 rfl ?_
  refine q_iconst F dL_adds_178 hc_2 ?_
  refine q_iadd F dL_adds_179 ?_
  refine q_top (v' := .int (nI (P1 + 2))) ?_ (congrArg Value.int (nI_add P1 2))
  refine q_callV_i F (n_matches hst hB hj hNP2) gL_adds_X4_matches rfl hd_X4_matches ⟨Nat.le_of_ble_eq_true rfl, Nat.le_of_ble_eq_true rfl⟩ (lB_o hB) rfl rfl rfl (Nat.le_of_ble_eq_true rfl) dL_adds_180 ⟨Nat.le_of_ble_eq_true rfl, Nat.le_of_ble_eq_true rfl⟩ ?_
  refine q_if_ne F 211 dL_adds_183 rfl (fun c183 => ?_) (fun c183 => ?_)
  · exact absurd c183 (not_not_intro (b2_z (by rw [lP_mt hP]; simp [like_self, like_zero, hp2])))
  refine q_cutB (tgt := 212) (st1 := []) (k := 25) (n := 150) (.int 1) (fun K186 => ?_) ?_
  · refine q_iload F dL_adds_186 rfl ?_
    refine q_if_gt F 207 dL_adds_188 rfl (fun c188 => ?_) (fun c188 => ?_)
    · refine q_iconst F dL_adds_207 hc_1 ?_
      refine q_goto F 212 dL_adds_208 rfl ?_
      exact q_widen (Nat.le_of_ble_eq_true rfl) (Nat.le_of_ble_eq_true rfl) K186
    have hz := nI_z (by omega) c188
    refine q_aload_n F 0 dL_adds_191 rfl rfl ?_
    refine q_iload F dL_adds_192 rfl ?_
    refine q_iload_n F 2 dL_adds_194 rfl rfl ?_
    refine q_sipush (v := 10000) F dL_adds_195 (by decide) ?_
    refine q_irem F dL_adds_198 (by decide) ?_
    refine q_top (v' := .int (nI (A % 10000))) ?_ (congrArg Value.int (nI_mod (d := 10000) hA1 (by decide) (by decide)))
    refine q_iload F dL_adds_199 rfl ?_
    refine q_callV_i F (n_matches hst hB hj (okNP_v (by omega) (by omega))) gL_adds_X4_matches rfl hd_X4_matches ⟨Nat.le_of_ble_eq_true rfl, Nat.le_of_ble_eq_true rfl⟩ (lB_o hB) rfl rfl rfl (Nat.le_of_ble_eq_true rfl) dL_adds_201 ⟨Nat.le_of_ble_eq_true rfl, Nat.le_of_ble_eq_true rfl⟩ ?_
    refine q_if_eq F 211 dL_adds_204 rfl (fun c204 => ?_) (fun c204 => ?_)
    · exact absurd c204 (b2_1 (by rw [lP_mt hP]; simp [like_self, like_zero, hz]))
    refine q_iconst F dL_adds_207 hc_1 ?_
    refine q_goto F 212 dL_adds_208 rfl ?_
    exact q_widen (Nat.le_of_ble_eq_true rfl) (Nat.le_of_ble_eq_true rfl) K186
  refine q_istore F dL_adds_212 (by decide) rfl ?_
  refine q_iload_n F 2 dL_adds_214 rfl rfl ?_
  refine q_iconst F dL_adds_215 hc_4 ?_
  refine q_irem F dL_adds_216 (by decide) ?_
  refine q_if_ne F 322 dL_adds_217 rfl (fun c217 => ?_) (fun c217 => ?_)
  · refine q_iload_n F 2 dL_adds_322 rfl rfl ?_
    refine q_iconst F dL_adds_323 hc_5 ?_
    refine q_irem F dL_adds_324 (by decide) ?_
    refine q_if_ne F 385 dL_adds_325 rfl (fun c325 => ?_) (fun c325 => ?_)
    · refine q_iload F dL_adds_385 rfl ?_
      refine q_if_eq F 427 dL_adds_387 rfl (fun c387 => ?_) (fun c387 => ?_)
      · exact absurd c387 (by decide)
      refine q_iload_n F 2 dL_adds_390 rfl rfl ?_
      refine q_bipush (v := 20) F dL_adds_391 (by decide) ?_
      refine q_irem F dL_adds_393 (by decide) ?_
      refine q_if_gt F 423 dL_adds_394 rfl (fun c394 => ?_) (fun c394 => ?_)
      · refine q_iconst F dL_adds_423 hc_1 ?_
        refine q_goto F 428 dL_adds_424 rfl ?_
        exact (q_reti F hr rfl dL_adds_428 (Nat.le_of_ble_eq_true rfl) (Nat.le_of_ble_eq_true rfl) ⟨1, rfl, rfl, _, _, _, _, _, _, _, _, _, _, _, hB, hI, hcI⟩)
      exact absurd ((m_0 (d := 4) hA1 (by decide) (by decide)).mpr (by have := a20 hA1 c394; omega)) c217
    refine q_iload F dL_adds_328 rfl ?_
    refine q_if_eq F 382 dL_adds_330 rfl (fun c330 => ?_) (fun c330 => ?_)
    · exact absurd c330 (by decide)
    refine q_aload_n F 0 dL_adds_333 rfl rfl ?_
    refine q_iload F dL_adds_334 rfl ?_
    refine q_iload_n F 3 dL_adds_336 rfl rfl ?_
    refine q_sipush (v := 10000) F dL_adds_337 (by decide) ?_
    refine q_irem F dL_adds_340 (by decide) ?_
    refine q_top (v' := .int (nI (B % 10000))) ?_ (congrArg Value.int (nI_mod (d := 10000) hb2 (by decide) (by decide)))
    refine q_iconst F dL_adds_341 hc_0 ?_
    refine q_iconst F dL_adds_342 hc_3 ?_
    refine q_iconst F dL_adds_343 hc_0 ?_
    refine q_callV_gi F (n_addPattern hst hB hj (Or.inl rfl) (okNP_v (y := 3) (by omega) (by decide)) (by decide) (lP_ok hP (by decide))) gL_adds_X4_addPattern rfl hd_X4_addPattern ⟨Nat.le_of_ble_eq_true rfl, Nat.le_of_ble_eq_true rfl⟩ (lB_o hB) rfl rfl rfl (Nat.le_of_ble_eq_true rfl) dL_adds_344 ⟨Nat.le_of_ble_eq_true rfl, Nat.le_of_ble_eq_true rfl⟩ (fun r S344 hp => ?_)
    obtain ⟨M4, rfl, hB, hI, hcI, hP⟩ := ex_pa hp hI hcI hP (by decide)
    refine q_iconst F dL_adds_347 hc_2 ?_
    refine q_icmp_lt F 382 dL_adds_348 rfl (fun c348 => ?_) (fun c348 => ?_)
    · exact absurd c348 (by decide)
    refine q_aload_n F 0 dL_adds_351 rfl rfl ?_
    refine q_iload F dL_adds_352 rfl ?_
    refine q_iload F dL_adds_354 rfl ?_
    refine q_iconst F dL_adds_356 hc_3 ?_
    refine q_callV_i F (n_matches hst hB hj hNP3) gL_adds_X4_matches rfl hd_X4_matches ⟨Nat.le_of_ble_eq_true rfl, Nat.le_of_ble_eq_true rfl⟩ (lB_o hB) rfl rfl rfl (Nat.le_of_ble_eq_true rfl) dL_adds_357 ⟨Nat.le_of_ble_eq_true rfl, Nat.le_of_ble_eq_true rfl⟩ ?_
    refine q_if_eq F 382 dL_adds_360 rfl (fun c360 => ?_) (fun c360 => ?_)
    · exact absurd c360 (b2_1 (by rw [lP_mt hP]; simp [like_self, like_zero, hp3, n3]))
    refine q_aload_n F 0 dL_adds_363 rfl rfl ?_
    refine q_iload F dL_adds_364 rfl ?_
    refine q_iload_n F 2 dL_adds_366 rfl rfl ?_
    refine q_sipush (v := 10000) F dL_adds_367 (by decide) ?_
    refine q_irem F dL_adds_370 (by decide) ?_
    refine q_top (v' := .int (nI (A % 10000))) ?_ (congrArg Value.int (nI_mod (d := 10000) hA1 (by decide) (by decide)))
    refine q_iconst F dL_adds_371 hc_3 ?_
    refine q_callV_i F (n_matches hst hB hj (okNP_v (y := 3) (by omega) (by decide))) gL_adds_X4_matches rfl hd_X4_matches ⟨Nat.le_of_ble_eq_true rfl, Nat.le_of_ble_eq_true rfl⟩ (lB_o hB) rfl rfl rfl (Nat.le_of_ble_eq_true rfl) dL_adds_372 ⟨Nat.le_of_ble_eq_true rfl, Nat.le_of_ble_eq_true rfl⟩ ?_
    refine q_if_eq F 382 dL_adds_375 rfl (fun c375 => ?_) (fun c375 => ?_)
    · exact absurd c375 (b2_1 (by rw [lP_mt hP]; simp [like_self, like_zero, hp3, n3]))
    refine q_iconst F dL_adds_378 hc_1 ?_
    refine q_goto F 383 dL_adds_379 rfl ?_
    refine q_istore F dL_adds_383 (by decide) rfl ?_
    refine q_iload F dL_adds_385 rfl ?_
    refine q_if_eq F 427 dL_adds_387 rfl (fun c387 => ?_) (fun c387 => ?_)
    · exact absurd c387 (by decide)
    refine q_iload_n F 2 dL_adds_390 rfl rfl ?_
    refine q_bipush (v := 20) F dL_adds_391 (by decide) ?_
    refine q_irem F dL_adds_393 (by decide) ?_
    refine q_if_gt F 423 dL_adds_394 rfl (fun c394 => ?_) (fun c394 => ?_)
    · refine q_iconst F dL_adds_423 hc_1 ?_
      refine q_goto F 428 dL_adds_424 rfl ?_
      exact (q_reti F hr rfl dL_adds_428 (Nat.le_of_ble_eq_true rfl) (Nat.le_of_ble_eq_true rfl) ⟨1, rfl, rfl, _, _, _, _, _, _, _, _, _, _, _, hB, hI, hcI⟩)
    exact absurd ((m_0 (d := 4) hA1 (by decide) (by decide)).mpr (by have := a20 hA1 c394; omega)) c217
  refine q_iload_n F 2 dL_adds_220 rfl rfl ?_
  refine q_iconst F dL_adds_221 hc_4 ?_
  refine q_idiv F dL_adds_222 (by decide) ?_
  refine q_top (v' := .int (nI (A / 4))) ?_ (congrArg Value.int (pk_div (d := 4) hA1 (by decide) (by decide)))
  refine q_callS_i F (c_L_name (show A / 4 < 2 ^ 31 by omega)) gL_adds_L_name rfl hd_L_name ⟨Nat.le_of_ble_eq_true rfl, Nat.le_of_ble_eq_true rfl⟩ rfl rfl (Nat.le_of_ble_eq_true rfl) dL_adds_223 ⟨Nat.le_of_ble_eq_true rfl, Nat.le_of_ble_eq_true rfl⟩ ?_
  refine q_istore F dL_adds_226 (by decide) rfl ?_
  refine q_aload_n F 0 dL_adds_228 rfl rfl ?_
  refine q_iload F dL_adds_229 rfl ?_
  refine q_iload F dL_adds_231 rfl ?_
  refine q_iload F dL_adds_233 rfl ?_
  refine q_callV_i F (n_matches hst hB hj (okNP_v (nmN_le _) (by omega))) gL_adds_X4_matches rfl hd_X4_matches ⟨Nat.le_of_ble_eq_true rfl, Nat.le_of_ble_eq_true rfl⟩ (lB_o hB) rfl rfl rfl (Nat.le_of_ble_eq_true rfl) dL_adds_235 ⟨Nat.le_of_ble_eq_true rfl, Nat.le_of_ble_eq_true rfl⟩ ?_
  refine q_istore F dL_adds_238 (by decide) rfl ?_
  refine q_iload F dL_adds_240 rfl ?_
  refine q_if_eq F 319 dL_adds_242 rfl (fun c242 => ?_) (fun c242 => ?_)
  · exact absurd c242 (by decide)
  refine q_aload_n F 0 dL_adds_245 rfl rfl ?_
  refine q_iload F dL_adds_246 rfl ?_
  refine q_iload F dL_adds_248 rfl ?_
  refine q_bipush (v := 15) F dL_adds_250 (by decide) ?_
  refine q_iload F dL_adds_252 rfl ?_
  refine q_iconst F dL_adds_254 hc_1 ?_
  refine q_callV_gi F (n_addPattern hst hB hj (Or.inr rfl) hNP (by decide) (lP_ok hP (by decide))) gL_adds_X4_addPattern rfl hd_X4_addPattern ⟨Nat.le_of_ble_eq_true rfl, Nat.le_of_ble_eq_true rfl⟩ (lB_o hB) rfl rfl rfl (Nat.le_of_ble_eq_true rfl) dL_adds_255 ⟨Nat.le_of_ble_eq_true rfl, Nat.le_of_ble_eq_true rfl⟩ (fun r S255 hp => ?_)
  have hP2 := hP
  obtain ⟨M3, rfl, hB, hI, hcI, hP⟩ := ex_pd hp hI hcI hP (by decide)
  refine q_iconst F dL_adds_258 hc_2 ?_
  refine q_icmp_ne F 319 dL_adds_259 rfl (fun c259 => ?_) (fun c259 => ?_)
  · exact absurd c259 (by decide)
  refine q_aload_n F 0 dL_adds_262 rfl rfl ?_
  refine q_iload F dL_adds_263 rfl ?_
  refine q_iload F dL_adds_265 rfl ?_
  refine q_iload F dL_adds_267 rfl ?_
  refine q_callV_i F (n_matches hst hB hj hNP) gL_adds_X4_matches rfl hd_X4_matches ⟨Nat.le_of_ble_eq_true rfl, Nat.le_of_ble_eq_true rfl⟩ (lB_o hB) rfl rfl rfl (Nat.le_of_ble_eq_true rfl) dL_adds_269 ⟨Nat.le_of_ble_eq_true rfl, Nat.le_of_ble_eq_true rfl⟩ ?_
  refine q_if_ne F 319 dL_adds_272 rfl (fun c272 => ?_) (fun c272 => ?_)
  · exact absurd c272 (not_not_intro (b2_z (by rw [lP_mt hP]; simp [like_self, like_zero])))
  refine q_cutB (tgt := 320) (st1 := []) (k := 43) (n := 260) (.int 1) (fun K275 => ?_) ?_
  · refine q_iload F dL_adds_275 rfl ?_
    refine q_if_ne F 293 dL_adds_277 rfl (fun c277 => ?_) (fun c277 => ?_)
    · refine q_iload F dL_adds_293 rfl ?_
      refine q_iload F dL_adds_295 rfl ?_
      refine q_icmp_eq F 315 dL_adds_297 rfl (fun c297 => ?_) (fun c297 => ?_)
      · refine q_iconst F dL_adds_315 hc_1 ?_
        refine q_goto F 320 dL_adds_316 rfl ?_
        exact q_widen (Nat.le_of_ble_eq_true rfl) (Nat.le_of_ble_eq_true rfl) K275
      refine q_aload_n F 0 dL_adds_300 rfl rfl ?_
      refine q_iload F dL_adds_301 rfl ?_
      refine q_iload F dL_adds_303 rfl ?_
      refine q_iload F dL_adds_305 rfl ?_
      refine q_callV_i F (n_matches hst hB hj (okNP_v (nmN_le _) (by omega))) gL_adds_X4_matches rfl hd_X4_matches ⟨Nat.le_of_ble_eq_true rfl, Nat.le_of_ble_eq_true rfl⟩ (lB_o hB) rfl rfl rfl (Nat.le_of_ble_eq_true rfl) dL_adds_307 ⟨Nat.le_of_ble_eq_true rfl, Nat.le_of_ble_eq_true rfl⟩ ?_
      refine q_iload F dL_adds_310 rfl ?_
      refine q_icmp_ne F 319 dL_adds_312 rfl (fun c312 => ?_) (fun c312 => ?_)
      · exact absurd c312 (not_not_intro (by rw [lP_mt hP2, lP_mt hP, show like 15 (nI N1) (nI (nmN (A / 4))) = false from Bool.eq_false_iff.mpr (fun z => c297 (congrArg nI (like_15 hN1 (nmN_le _) z).symm))]; simp))
      refine q_iconst F dL_adds_315 hc_1 ?_
      refine q_goto F 320 dL_adds_316 rfl ?_
      exact q_widen (Nat.le_of_ble_eq_true rfl) (Nat.le_of_ble_eq_true rfl) K275
    refine q_aload_n F 0 dL_adds_280 rfl rfl ?_
    refine q_iload F dL_adds_281 rfl ?_
    refine q_iload F dL_adds_283 rfl ?_
    refine q_iload F dL_adds_285 rfl ?_
    refine q_callV_i F (n_matches hst hB hj (okNP_v (nmN_le _) (by omega))) gL_adds_X4_matches rfl hd_X4_matches ⟨Nat.le_of_ble_eq_true rfl, Nat.le_of_ble_eq_true rfl⟩ (lB_o hB) rfl rfl rfl (Nat.le_of_ble_eq_true rfl) dL_adds_287 ⟨Nat.le_of_ble_eq_true rfl, Nat.le_of_ble_eq_true rfl⟩ ?_
    refine q_if_ne F 319 dL_adds_290 rfl (fun c290 => ?_) (fun c290 => ?_)
    · exact absurd c290 (not_not_intro (b2_z (by have c := b2_0.mp c277; rw [lP_mt hP2] at c; rw [lP_mt hP]; simp at c; simp [c])))
    refine q_iload F dL_adds_293 rfl ?_
    refine q_iload F dL_adds_295 rfl ?_
    refine q_icmp_eq F 315 dL_adds_297 rfl (fun c297 => ?_) (fun c297 => ?_)
    · refine q_iconst F dL_adds_315 hc_1 ?_
      refine q_goto F 320 dL_adds_316 rfl ?_
      exact q_widen (Nat.le_of_ble_eq_true rfl) (Nat.le_of_ble_eq_true rfl) K275
    refine q_aload_n F 0 dL_adds_300 rfl rfl ?_
    refine q_iload F dL_adds_301 rfl ?_
    refine q_iload F dL_adds_303 rfl ?_
    refine q_iload F dL_adds_305 rfl ?_
    refine q_callV_i F (n_matches hst hB hj (okNP_v (nmN_le _) (by omega))) gL_adds_X4_matches rfl hd_X4_matches ⟨Nat.le_of_ble_eq_true rfl, Nat.le_of_ble_eq_true rfl⟩ (lB_o hB) rfl rfl rfl (Nat.le_of_ble_eq_true rfl) dL_adds_307 ⟨Nat.le_of_ble_eq_true rfl, Nat.le_of_ble_eq_true rfl⟩ ?_
    refine q_iload F dL_adds_310 rfl ?_
    refine q_icmp_ne F 319 dL_adds_312 rfl (fun c312 => ?_) (fun c312 => ?_)
    · exact absurd c312 (not_not_intro (by rw [lP_mt hP2, lP_mt hP, show like 15 (nI N1) (nI (nmN (A / 4))) = false from Bool.eq_false_iff.mpr (fun z => c297 (congrArg nI (like_15 hN1 (nmN_le _) z).symm))]; simp))
    refine q_iconst F dL_adds_315 hc_1 ?_
    refine q_goto F 320 dL_adds_316 rfl ?_
    exact q_widen (Nat.le_of_ble_eq_true rfl) (Nat.le_of_ble_eq_true rfl) K275
  refine q_istore F dL_adds_320 (by decide) rfl ?_
  refine q_iload_n F 2 dL_adds_322 rfl rfl ?_
  refine q_iconst F dL_adds_323 hc_5 ?_
  refine q_irem F dL_adds_324 (by decide) ?_
  refine q_if_ne F 385 dL_adds_325 rfl (fun c325 => ?_) (fun c325 => ?_)
  · refine q_iload F dL_adds_385 rfl ?_
    refine q_if_eq F 427 dL_adds_387 rfl (fun c387 => ?_) (fun c387 => ?_)
    · exact absurd c387 (by decide)
    refine q_iload_n F 2 dL_adds_390 rfl rfl ?_
    refine q_bipush (v := 20) F dL_adds_391 (by decide) ?_
    refine q_irem F dL_adds_393 (by decide) ?_
    refine q_if_gt F 423 dL_adds_394 rfl (fun c394 => ?_) (fun c394 => ?_)
    · refine q_iconst F dL_adds_423 hc_1 ?_
      refine q_goto F 428 dL_adds_424 rfl ?_
      exact (q_reti F hr rfl dL_adds_428 (Nat.le_of_ble_eq_true rfl) (Nat.le_of_ble_eq_true rfl) ⟨1, rfl, rfl, _, _, _, _, _, _, _, _, _, _, _, hB, hI, hcI⟩)
    exact absurd ((m_0 (d := 5) hA1 (by decide) (by decide)).mpr (by have := a20 hA1 c394; omega)) c325
  refine q_iload F dL_adds_328 rfl ?_
  refine q_if_eq F 382 dL_adds_330 rfl (fun c330 => ?_) (fun c330 => ?_)
  · exact absurd c330 (by decide)
  refine q_aload_n F 0 dL_adds_333 rfl rfl ?_
  refine q_iload F dL_adds_334 rfl ?_
  refine q_iload_n F 3 dL_adds_336 rfl rfl ?_
  refine q_sipush (v := 10000) F dL_adds_337 (by decide) ?_
  refine q_irem F dL_adds_340 (by decide) ?_
  refine q_top (v' := .int (nI (B % 10000))) ?_ (congrArg Value.int (nI_mod (d := 10000) hb2 (by decide) (by decide)))
  refine q_iconst F dL_adds_341 hc_0 ?_
  refine q_iconst F dL_adds_342 hc_3 ?_
  refine q_iconst F dL_adds_343 hc_0 ?_
  refine q_callV_gi F (n_addPattern hst hB hj (Or.inl rfl) (okNP_v (y := 3) (by omega) (by decide)) (by decide) (lP_ok hP (by decide))) gL_adds_X4_addPattern rfl hd_X4_addPattern ⟨Nat.le_of_ble_eq_true rfl, Nat.le_of_ble_eq_true rfl⟩ (lB_o hB) rfl rfl rfl (Nat.le_of_ble_eq_true rfl) dL_adds_344 ⟨Nat.le_of_ble_eq_true rfl, Nat.le_of_ble_eq_true rfl⟩ (fun r S344 hp => ?_)
  obtain ⟨M4, rfl, hB, hI, hcI, hP⟩ := ex_pa hp hI hcI hP (by decide)
  refine q_iconst F dL_adds_347 hc_2 ?_
  refine q_icmp_lt F 382 dL_adds_348 rfl (fun c348 => ?_) (fun c348 => ?_)
  · exact absurd c348 (by decide)
  refine q_aload_n F 0 dL_adds_351 rfl rfl ?_
  refine q_iload F dL_adds_352 rfl ?_
  refine q_iload F dL_adds_354 rfl ?_
  refine q_iconst F dL_adds_356 hc_3 ?_
  refine q_callV_i F (n_matches hst hB hj hNP3) gL_adds_X4_matches rfl hd_X4_matches ⟨Nat.le_of_ble_eq_true rfl, Nat.le_of_ble_eq_true rfl⟩ (lB_o hB) rfl rfl rfl (Nat.le_of_ble_eq_true rfl) dL_adds_357 ⟨Nat.le_of_ble_eq_true rfl, Nat.le_of_ble_eq_true rfl⟩ ?_
  refine q_if_eq F 382 dL_adds_360 rfl (fun c360 => ?_) (fun c360 => ?_)
  · exact absurd c360 (b2_1 (by rw [lP_mt hP]; simp [like_self, like_zero, hp3, n3]))
  refine q_aload_n F 0 dL_adds_363 rfl rfl ?_
  refine q_iload F dL_adds_364 rfl ?_
  refine q_iload_n F 2 dL_adds_366 rfl rfl ?_
  refine q_sipush (v := 10000) F dL_adds_367 (by decide) ?_
  refine q_irem F dL_adds_370 (by decide) ?_
  refine q_top (v' := .int (nI (A % 10000))) ?_ (congrArg Value.int (nI_mod (d := 10000) hA1 (by decide) (by decide)))
  refine q_iconst F dL_adds_371 hc_3 ?_
  refine q_callV_i F (n_matches hst hB hj (okNP_v (y := 3) (by omega) (by decide))) gL_adds_X4_matches rfl hd_X4_matches ⟨Nat.le_of_ble_eq_true rfl, Nat.le_of_ble_eq_true rfl⟩ (lB_o hB) rfl rfl rfl (Nat.le_of_ble_eq_true rfl) dL_adds_372 ⟨Nat.le_of_ble_eq_true rfl, Nat.le_of_ble_eq_true rfl⟩ ?_
  refine q_if_eq F 382 dL_adds_375 rfl (fun c375 => ?_) (fun c375 => ?_)
  · exact absurd c375 (b2_1 (by rw [lP_mt hP]; simp [like_self, like_zero, hp3, n3]))
  refine q_iconst F dL_adds_378 hc_1 ?_
  refine q_goto F 383 dL_adds_379 rfl ?_
  refine q_istore F dL_adds_383 (by decide) rfl ?_
  refine q_iload F dL_adds_385 rfl ?_
  refine q_if_eq F 427 dL_adds_387 rfl (fun c387 => ?_) (fun c387 => ?_)
  · exact absurd c387 (by decide)
  refine q_iload_n F 2 dL_adds_390 rfl rfl ?_
  refine q_bipush (v := 20) F dL_adds_391 (by decide) ?_
  refine q_irem F dL_adds_393 (by decide) ?_
  refine q_if_gt F 423 dL_adds_394 rfl (fun c394 => ?_) (fun c394 => ?_)
  · refine q_iconst F dL_adds_423 hc_1 ?_
    refine q_goto F 428 dL_adds_424 rfl ?_
    exact (q_reti F hr rfl dL_adds_428 (Nat.le_of_ble_eq_true rfl) (Nat.le_of_ble_eq_true rfl) ⟨1, rfl, rfl, _, _, _, _, _, _, _, _, _, _, _, hB, hI, hcI⟩)
  refine q_aload_n F 0 dL_adds_397 rfl rfl ?_
  refine q_iload F dL_adds_398 rfl ?_
  refine q_iconst F dL_adds_400 hc_0 ?_
  refine q_iconst F dL_adds_401 hc_0 ?_
  refine q_iconst F dL_adds_402 hc_3 ?_
  refine q_iconst F dL_adds_403 hc_1 ?_
  refine q_callV_gi F (n_addPattern hst hB hj (Or.inr rfl) (by decide) (by decide) (lP_ok hP (by decide))) gL_adds_X4_addPattern rfl hd_X4_addPattern ⟨Nat.le_of_ble_eq_true rfl, Nat.le_of_ble_eq_true rfl⟩ (lB_o hB) rfl rfl rfl (Nat.le_of_ble_eq_true rfl) dL_adds_404 ⟨Nat.le_of_ble_eq_true rfl, Nat.le_of_ble_eq_true rfl⟩ (fun r S404 hp => ?_)
  obtain ⟨M5, rfl, hB, hI, hcI, hP⟩ := ex_pd hp hI hcI hP (by decide)
  refine q_iconst F dL_adds_407 hc_4 ?_
  refine q_icmp_ne F 427 dL_adds_408 rfl (fun c408 => ?_) (fun c408 => ?_)
  · exact absurd c408 (by decide)
  refine q_aload_n F 0 dL_adds_411 rfl rfl ?_
  refine q_iload F dL_adds_412 rfl ?_
  refine q_iload F dL_adds_414 rfl ?_
  refine q_iconst F dL_adds_416 hc_3 ?_
  refine q_callV_i F (n_matches hst hB hj hNP3) gL_adds_X4_matches rfl hd_X4_matches ⟨Nat.le_of_ble_eq_true rfl, Nat.le_of_ble_eq_true rfl⟩ (lB_o hB) rfl rfl rfl (Nat.le_of_ble_eq_true rfl) dL_adds_417 ⟨Nat.le_of_ble_eq_true rfl, Nat.le_of_ble_eq_true rfl⟩ ?_
  refine q_if_ne F 427 dL_adds_420 rfl (fun c420 => ?_) (fun c420 => ?_)
  · exact absurd c420 (not_not_intro (b2_z (by rw [lP_mt hP]; simp [like_self, like_zero, hp3, n3])))
  refine q_iconst F dL_adds_423 hc_1 ?_
  refine q_goto F 428 dL_adds_424 rfl ?_
  exact (q_reti F hr rfl dL_adds_428 (Nat.le_of_ble_eq_true rfl) (Nat.le_of_ble_eq_true rfl) ⟨1, rfl, rfl, _, _, _, _, _, _, _, _, _, _, _, hB, hI, hcI⟩)

