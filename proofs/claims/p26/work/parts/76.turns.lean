set_option maxHeartbeats 4000000 in
set_option maxRecDepth 100000 in
theorem c_L_turns {l : Launch} {g : hG} {X : va_W} {S : hS} (hst : l.stackTraces = false) {h cA bk ca sa : Nat} {f : Nat → Int32} {ad pa : Nat → Nat} {sc : Nat → Int32} {M : Nat → Nat → Int32} {n nc ns : Nat} (hB : lB S h cA f bk ca sa ad pa sc M n nc ns) (hI : lI sc M n) (hcI : cI f sc M n nc ns) {N1 P1 K1 K2 D : Nat} (hN1 : N1 ≤ 9999) (hP1 : P1 ≤ 3) (hK1 : K1 ≤ 199) (hK2 : K2 ≤ 199) (hD : D ≤ 1000) : hMet l yL_turns wsL_turns rm_L_turns g X S [.ref h, .ref cA, .int (nI N1), .int (nI P1), .int (nI K1), .int (nI K2), .int (nI D)] (pGI (fun r S' => r = 1 ∧ lW S' h cA)) := by
  refine h_start (maxL := 11) (ret := (some .boolean)) (by decide) rfl (Nat.le_of_ble_eq_true rfl) ?_
  intro p e s m args below meth c F hr hinit
  have h0 : f 0 = sc 1 := hcI.1
  have h1 : f 1 = nI n := hcI.2.1
  have h2 : f 2 = nI nc := hcI.2.2.1
  have h3 : f 3 = nI ns := hcI.2.2.2.1
  have h4 : f 4 = sc 2 := hcI.2.2.2.2.1
  have h6 : f 6 = sc 29 + 1 := hcI.2.2.2.2.2.1
  have hn40 := lB_n hB
  have hnc20 := lB_nc hB
  have hns20 := lB_ns hB
  have hNP : okNP (nI N1) (nI P1) = true := okNP_v hN1 hP1
  have hKo : okK (nI K1) = true := okK_v hK1
  have hKn : okK (nI K2) = true := okK_v hK2
  have hs4 : sc 4 = nI n := hB.2.1.1.2.1
  have hz := cC_sz hB.2.1
  obtain ⟨d0, hd1, hd0⟩ := day_nat hI.2.1
  have hq40 : (kN (tlB M (sc 1) (nI K1) (nI N1) (nI P1)) n) ≤ 40 := Nat.le_trans (kN_le n) hn40
  have hu40 : n + (uTl n (kN (tlB M (sc 1) (nI K1) (nI N1) (nI P1)) n)) ≤ 40 := by unfold uTl; omega
  refine q_iload F dL_turns_0 rfl ?_
  refine q_iload F dL_turns_2 rfl ?_
  refine q_icmp_eq F 32 dL_turns_4 rfl (fun c4 => ?_) (fun c4 => ?_)
  · refine q_aload_n F 0 dL_turns_32 rfl rfl ?_
    refine q_iload_n F 2 dL_turns_33 rfl rfl ?_
    refine q_iload_n F 3 dL_turns_34 rfl rfl ?_
    refine q_iload F dL_turns_35 rfl ?_
    refine q_iconst F dL_turns_37 hc_m1 ?_
    refine q_callV_i F (n_judge_n hst hB hNP hKo) gL_turns_X4_judge rfl hd_X4_judge ⟨Nat.le_of_ble_eq_true rfl, Nat.le_of_ble_eq_true rfl⟩ (lB_o hB) rfl rfl rfl (Nat.le_of_ble_eq_true rfl) dL_turns_38 ⟨Nat.le_of_ble_eq_true rfl, Nat.le_of_ble_eq_true rfl⟩ ?_
    refine q_aload_n F 0 dL_turns_41 rfl rfl ?_
    refine q_iload_n F 2 dL_turns_42 rfl rfl ?_
    refine q_iload_n F 3 dL_turns_43 rfl rfl ?_
    refine q_iload F dL_turns_44 rfl ?_
    refine q_callV_i F (n_judgeByReading hst hB hNP hKo) gL_turns_X4_judgeByReading rfl hd_X4_judgeByReading ⟨Nat.le_of_ble_eq_true rfl, Nat.le_of_ble_eq_true rfl⟩ (lB_o hB) rfl rfl rfl (Nat.le_of_ble_eq_true rfl) dL_turns_46 ⟨Nat.le_of_ble_eq_true rfl, Nat.le_of_ble_eq_true rfl⟩ ?_
    refine q_icmp_ne F 56 dL_turns_49 rfl (fun c49 => ?_) (fun c49 => ?_)
    · exact absurd c49 (not_not_intro rfl)
    refine q_iconst F dL_turns_52 hc_1 ?_
    refine q_goto F 57 dL_turns_53 rfl ?_
    exact (q_reti F hr rfl dL_turns_57 (Nat.le_of_ble_eq_true rfl) (Nat.le_of_ble_eq_true rfl) ⟨1, rfl, rfl, _, _, _, _, _, _, _, _, _, _, _, hB, hI, hcI⟩)
  refine q_aload_n F 0 dL_turns_7 rfl rfl ?_
  refine q_iload_n F 2 dL_turns_8 rfl rfl ?_
  refine q_iload_n F 3 dL_turns_9 rfl rfl ?_
  refine q_iload F dL_turns_10 rfl ?_
  refine q_iconst F dL_turns_12 hc_m1 ?_
  refine q_callV_i F (n_judge_n hst hB hNP hKo) gL_turns_X4_judge rfl hd_X4_judge ⟨Nat.le_of_ble_eq_true rfl, Nat.le_of_ble_eq_true rfl⟩ (lB_o hB) rfl rfl rfl (Nat.le_of_ble_eq_true rfl) dL_turns_13 ⟨Nat.le_of_ble_eq_true rfl, Nat.le_of_ble_eq_true rfl⟩ ?_
  refine q_iconst F dL_turns_16 hc_2 ?_
  refine q_icmp_ne F 32 dL_turns_17 rfl (fun c17 => ?_) (fun c17 => ?_)
  · refine q_aload_n F 0 dL_turns_32 rfl rfl ?_
    refine q_iload_n F 2 dL_turns_33 rfl rfl ?_
    refine q_iload_n F 3 dL_turns_34 rfl rfl ?_
    refine q_iload F dL_turns_35 rfl ?_
    refine q_iconst F dL_turns_37 hc_m1 ?_
    refine q_callV_i F (n_judge_n hst hB hNP hKo) gL_turns_X4_judge rfl hd_X4_judge ⟨Nat.le_of_ble_eq_true rfl, Nat.le_of_ble_eq_true rfl⟩ (lB_o hB) rfl rfl rfl (Nat.le_of_ble_eq_true rfl) dL_turns_38 ⟨Nat.le_of_ble_eq_true rfl, Nat.le_of_ble_eq_true rfl⟩ ?_
    refine q_aload_n F 0 dL_turns_41 rfl rfl ?_
    refine q_iload_n F 2 dL_turns_42 rfl rfl ?_
    refine q_iload_n F 3 dL_turns_43 rfl rfl ?_
    refine q_iload F dL_turns_44 rfl ?_
    refine q_callV_i F (n_judgeByReading hst hB hNP hKo) gL_turns_X4_judgeByReading rfl hd_X4_judgeByReading ⟨Nat.le_of_ble_eq_true rfl, Nat.le_of_ble_eq_true rfl⟩ (lB_o hB) rfl rfl rfl (Nat.le_of_ble_eq_true rfl) dL_turns_46 ⟨Nat.le_of_ble_eq_true rfl, Nat.le_of_ble_eq_true rfl⟩ ?_
    refine q_icmp_ne F 56 dL_turns_49 rfl (fun c49 => ?_) (fun c49 => ?_)
    · exact absurd c49 (not_not_intro rfl)
    refine q_iconst F dL_turns_52 hc_1 ?_
    refine q_goto F 57 dL_turns_53 rfl ?_
    exact (q_reti F hr rfl dL_turns_57 (Nat.le_of_ble_eq_true rfl) (Nat.le_of_ble_eq_true rfl) ⟨1, rfl, rfl, _, _, _, _, _, _, _, _, _, _, _, hB, hI, hcI⟩)
  refine q_aload_n F 0 dL_turns_20 rfl rfl ?_
  refine q_iload_n F 2 dL_turns_21 rfl rfl ?_
  refine q_iload_n F 3 dL_turns_22 rfl rfl ?_
  refine q_iload F dL_turns_23 rfl ?_
  refine q_iconst F dL_turns_25 hc_m1 ?_
  refine q_callV_i F (n_judge_n hst hB hNP hKn) gL_turns_X4_judge rfl hd_X4_judge ⟨Nat.le_of_ble_eq_true rfl, Nat.le_of_ble_eq_true rfl⟩ (lB_o hB) rfl rfl rfl (Nat.le_of_ble_eq_true rfl) dL_turns_26 ⟨Nat.le_of_ble_eq_true rfl, Nat.le_of_ble_eq_true rfl⟩ ?_
  refine q_if_ne F 58 dL_turns_29 rfl (fun c29 => ?_) (fun c29 => ?_)
  · refine q_iconst F dL_turns_58 hc_0 ?_
    refine q_istore F dL_turns_59 (by decide) rfl ?_
    refine q_iconst F dL_turns_61 hc_0 ?_
    refine q_istore F dL_turns_62 (by decide) rfl ?_
    have L : ∀ (r j cells slots : Nat), j + r = n → cells + 6 * r ≤ 248 → slots + 36 * r ≤ 1488 → V p l e rm_L_turns s m args below meth c 11 g X (MQ below (hQ g X (pGI (fun r S' => r = 1 ∧ lW S' h cA))) args s rm_L_turns.cells rm_L_turns.slots (hA g)) S cells slots [(0, .ref h), (1, .ref cA), (2, .int (nI N1)), (3, .int (nI P1)), (4, .int (nI K1)), (5, .int (nI K2)), (6, .int (nI D)), (7, .int (nI (kN (tlB M (sc 1) (nI K1) (nI N1) (nI P1)) j))), (8, .int (nI j))] 64 [] := by
      intro r
      induction r with
      | zero =>
        intro j cells slots hjr hcz hsz
        have hjn : j = n := by omega
        refine q_iload F dL_turns_64 rfl ?_
        refine q_aload_n F 1 dL_turns_66 rfl rfl ?_
        refine q_iconst F dL_turns_67 hc_1 ?_
        refine q_cld F hB 1 rfl (by decide) dL_turns_68 ?_
        refine q_top (v' := .int (nI n)) ?_ (congrArg Value.int (h1))
        refine q_icmp_ge F 144 dL_turns_69 rfl (fun c69 => ?_) (fun c69 => ?_)
        · rw [hjn]
          refine q_widen (k := 248) (n := 1488) (by omega) (by omega) ?_
          refine q_aload_n F 1 dL_turns_144 rfl rfl ?_
          refine q_iconst F dL_turns_145 hc_1 ?_
          refine q_cld F hB 1 rfl (by decide) dL_turns_146 ?_
          refine q_top (v' := .int (nI n)) ?_ (congrArg Value.int (h1))
          refine q_istore F dL_turns_147 (by decide) rfl ?_
          refine q_cutB (tgt := 169) (st1 := []) (k := 248) (n := 1488) (.int (nI (uTl n (kN (tlB M (sc 1) (nI K1) (nI N1) (nI P1)) n)))) (fun K149 => ?_) ?_
          · refine q_iload F dL_turns_149 rfl ?_
            refine q_bipush (v := 40) F dL_turns_151 (by decide) ?_
            refine q_iload F dL_turns_153 rfl ?_
            refine q_isub F dL_turns_155 ?_
            refine q_top (v' := .int (nI (40 - n))) ?_ (congrArg Value.int (pk_sub (a := 40) hn40))
            refine q_icmp_le F 167 dL_turns_156 rfl (fun c156 => ?_) (fun c156 => ?_)
            · refine q_iload F dL_turns_167 rfl ?_
              exact (q_top K149 (congrArg Value.int (by first | exact ut_a hq40 hn40 c156 | exact ut_b hq40 hn40 c156)))
            refine q_bipush (v := 40) F dL_turns_159 (by decide) ?_
            refine q_iload F dL_turns_161 rfl ?_
            refine q_isub F dL_turns_163 ?_
            refine q_top (v' := .int (nI (40 - n))) ?_ (congrArg Value.int (pk_sub (a := 40) hn40))
            refine q_goto F 169 dL_turns_164 rfl ?_
            exact (q_top K149 (congrArg Value.int (by first | exact ut_a hq40 hn40 c156 | exact ut_b hq40 hn40 c156)))
          refine q_istore F dL_turns_169 (by decide) rfl ?_
          refine q_aload_n F 1 dL_turns_171 rfl rfl ?_
          refine q_iconst F dL_turns_172 hc_1 ?_
          refine q_dup2 F dL_turns_173 rfl rfl ?_
          refine q_cld F hB 1 rfl (by decide) dL_turns_174 ?_
          refine q_top (v' := .int (nI n)) ?_ (congrArg Value.int (h1))
          refine q_iload F dL_turns_175 rfl ?_
          refine q_iadd F dL_turns_177 ?_
          refine q_top (v' := .int (nI (n + (uTl n (kN (tlB M (sc 1) (nI K1) (nI N1) (nI P1)) n))))) ?_ (congrArg Value.int (nI_add _ _))
          refine q_cst F hB 1 rfl (by decide) dL_turns_178 (fun S178 hB => ?_)
          refine q_aload_n F 0 dL_turns_179 rfl rfl ?_
          refine q_iload_n F 2 dL_turns_180 rfl rfl ?_
          refine q_iload_n F 3 dL_turns_181 rfl rfl ?_
          refine q_iload F dL_turns_182 rfl ?_
          refine q_iload F dL_turns_184 rfl ?_
          refine q_iload F dL_turns_186 rfl ?_
          refine q_callV_gi F (n_turn hst hB (ba (ba (ba (ba hNP hKo) hKn) (inR_nI (a := 0) (b := 1000) (Nat.zero_le _) hD (by decide))) (by rw [decide_eq_false c4]; rfl)) c17 c29) gL_turns_X4_turn rfl hd_X4_turn ⟨Nat.le_of_ble_eq_true rfl, Nat.le_of_ble_eq_true rfl⟩ (lB_o hB) rfl rfl rfl (Nat.le_of_ble_eq_true rfl) dL_turns_188 ⟨Nat.le_of_ble_eq_true rfl, Nat.le_of_ble_eq_true rfl⟩ (fun r S188 hp => ?_)
          obtain ⟨sc1, M1, rfl, hB, hI, hcI, hnew, hoth, hold⟩ := ex_turn (u := (uTl n (kN (tlB M (sc 1) (nI K1) (nI N1) (nI P1)) n))) rfl hp hI hcI hn40 hz hKn c4 c29 hd0 hd1 hD hs4
          refine q_iload F dL_turns_191 rfl ?_
          refine q_icmp_ne F 228 dL_turns_193 rfl (fun c193 => ?_) (fun c193 => ?_)
          · exact absurd c193 (not_not_intro rfl)
          refine q_aload_n F 0 dL_turns_196 rfl rfl ?_
          refine q_callV_i F (n_lines hB) gL_turns_X4_lines rfl hd_X4_lines ⟨Nat.le_of_ble_eq_true rfl, Nat.le_of_ble_eq_true rfl⟩ (lB_o hB) rfl rfl rfl (Nat.le_of_ble_eq_true rfl) dL_turns_197 ⟨Nat.le_of_ble_eq_true rfl, Nat.le_of_ble_eq_true rfl⟩ ?_
          refine q_aload_n F 1 dL_turns_200 rfl rfl ?_
          refine q_iconst F dL_turns_201 hc_1 ?_
          refine q_cld F hB 1 rfl (by decide) dL_turns_202 ?_
          refine q_top (v' := .int (nI (n + (uTl n (kN (tlB M (sc 1) (nI K1) (nI N1) (nI P1)) n))))) ?_ (congrArg Value.int (hcI.2.1))
          refine q_icmp_ne F 228 dL_turns_203 rfl (fun c203 => ?_) (fun c203 => ?_)
          · exact absurd c203 (not_not_intro rfl)
          refine q_cutB (tgt := 229) (st1 := []) (k := 260) (n := 1560) (.int 1) (fun K206 => ?_) ?_
          · refine q_iload F dL_turns_206 rfl ?_
            refine q_if_eq F 224 dL_turns_208 rfl (fun c208 => ?_) (fun c208 => ?_)
            · refine q_iconst F dL_turns_224 hc_1 ?_
              refine q_goto F 229 dL_turns_225 rfl ?_
              exact q_widen (Nat.le_of_ble_eq_true rfl) (Nat.le_of_ble_eq_true rfl) K206
            refine q_aload_n F 0 dL_turns_211 rfl rfl ?_
            refine q_iload_n F 2 dL_turns_212 rfl rfl ?_
            refine q_iload_n F 3 dL_turns_213 rfl rfl ?_
            refine q_iload F dL_turns_214 rfl ?_
            refine q_iconst F dL_turns_216 hc_m1 ?_
            refine q_callV_i F (n_judge_n hst hB hNP hKn) gL_turns_X4_judge rfl hd_X4_judge ⟨Nat.le_of_ble_eq_true rfl, Nat.le_of_ble_eq_true rfl⟩ (lB_o hB) rfl rfl rfl (Nat.le_of_ble_eq_true rfl) dL_turns_217 ⟨Nat.le_of_ble_eq_true rfl, Nat.le_of_ble_eq_true rfl⟩ ?_
            refine q_iconst F dL_turns_220 hc_2 ?_
            refine q_icmp_ne F 228 dL_turns_221 rfl (fun c221 => ?_) (fun c221 => ?_)
            · exact absurd c221 (not_not_intro (hoth (fun z => c208 (by rw [z]; rfl))))
            refine q_iconst F dL_turns_224 hc_1 ?_
            refine q_goto F 229 dL_turns_225 rfl ?_
            exact q_widen (Nat.le_of_ble_eq_true rfl) (Nat.le_of_ble_eq_true rfl) K206
          refine q_istore F dL_turns_229 (by decide) rfl ?_
          refine q_iload F dL_turns_231 rfl ?_
          refine q_istore F dL_turns_233 (by decide) rfl ?_
          have L2 : ∀ (r t cells slots : Nat), t + r = (uTl n (kN (tlB M (sc 1) (nI K1) (nI N1) (nI P1)) n)) → cells + 6 * r ≤ 500 → slots + 36 * r ≤ 3000 → V p l e rm_L_turns s m args below meth c 11 g X (MQ below (hQ g X (pGI (fun r S' => r = 1 ∧ lW S' h cA))) args s rm_L_turns.cells rm_L_turns.slots (hA g)) S188 cells slots [(0, .ref h), (1, .ref cA), (2, .int (nI N1)), (3, .int (nI P1)), (4, .int (nI K1)), (5, .int (nI K2)), (6, .int (nI D)), (7, .int (nI (uTl n (kN (tlB M (sc 1) (nI K1) (nI N1) (nI P1)) n)))), (8, .int (nI n)), (9, .int 1), (10, .int (nI (n + t)))] 235 [] := by
            intro r
            induction r with
            | zero =>
              intro t cells slots htr hcz hsz
              refine q_iload F dL_turns_235 rfl ?_
              refine q_aload_n F 1 dL_turns_237 rfl rfl ?_
              refine q_iconst F dL_turns_238 hc_1 ?_
              refine q_cld F hB 1 rfl (by decide) dL_turns_239 ?_
              refine q_top (v' := .int (nI (n + (uTl n (kN (tlB M (sc 1) (nI K1) (nI N1) (nI P1)) n))))) ?_ (congrArg Value.int (hcI.2.1))
              refine q_icmp_ge F 305 dL_turns_240 rfl (fun c240 => ?_) (fun c240 => ?_)
              · refine q_widen (k := 500) (n := 3000) (by omega) (by omega) ?_
                refine q_iload F dL_turns_305 rfl ?_
                refine q_if_eq F 342 dL_turns_307 rfl (fun c307 => ?_) (fun c307 => ?_)
                · exact absurd c307 (by decide)
                refine q_iload F dL_turns_310 rfl ?_
                refine q_iload F dL_turns_312 rfl ?_
                refine q_iadd F dL_turns_314 ?_
                refine q_top (v' := .int (nI (n + (uTl n (kN (tlB M (sc 1) (nI K1) (nI N1) (nI P1)) n))))) ?_ (congrArg Value.int (nI_add _ _))
                refine q_bipush (v := 40) F dL_turns_315 (by decide) ?_
                refine q_icmp_eq F 338 dL_turns_317 rfl (fun c317 => ?_) (fun c317 => ?_)
                · refine q_iconst F dL_turns_338 hc_1 ?_
                  refine q_goto F 343 dL_turns_339 rfl ?_
                  exact (q_reti F hr rfl dL_turns_343 (Nat.le_of_ble_eq_true rfl) (Nat.le_of_ble_eq_true rfl) ⟨1, rfl, rfl, _, _, _, _, _, _, _, _, _, _, _, hB, hI, hcI⟩)
                refine q_iload F dL_turns_320 rfl ?_
                refine q_if_gt F 338 dL_turns_322 rfl (fun c322 => ?_) (fun c322 => ?_)
                · refine q_iconst F dL_turns_338 hc_1 ?_
                  refine q_goto F 343 dL_turns_339 rfl ?_
                  exact (q_reti F hr rfl dL_turns_343 (Nat.le_of_ble_eq_true rfl) (Nat.le_of_ble_eq_true rfl) ⟨1, rfl, rfl, _, _, _, _, _, _, _, _, _, _, _, hB, hI, hcI⟩)
                refine q_aload_n F 0 dL_turns_325 rfl rfl ?_
                refine q_iload_n F 2 dL_turns_326 rfl rfl ?_
                refine q_iload_n F 3 dL_turns_327 rfl rfl ?_
                refine q_iload F dL_turns_328 rfl ?_
                refine q_iconst F dL_turns_330 hc_m1 ?_
                refine q_callV_i F (n_judge_n hst hB hNP hKo) gL_turns_X4_judge rfl hd_X4_judge ⟨Nat.le_of_ble_eq_true rfl, Nat.le_of_ble_eq_true rfl⟩ (lB_o hB) rfl rfl rfl (Nat.le_of_ble_eq_true rfl) dL_turns_331 ⟨Nat.le_of_ble_eq_true rfl, Nat.le_of_ble_eq_true rfl⟩ ?_
                refine q_iconst F dL_turns_334 hc_2 ?_
                refine q_icmp_eq F 342 dL_turns_335 rfl (fun c335 => ?_) (fun c335 => ?_)
                · exact absurd c335 (hold (fun z => c317 (by rw [z]; rfl)) (by have z := nI_z (by omega) c322; rw [show (0 : Int32) = nI 0 from rfl, nI_eq (by omega) (by decide)] at z; exact z))
                refine q_iconst F dL_turns_338 hc_1 ?_
                refine q_goto F 343 dL_turns_339 rfl ?_
                exact (q_reti F hr rfl dL_turns_343 (Nat.le_of_ble_eq_true rfl) (Nat.le_of_ble_eq_true rfl) ⟨1, rfl, rfl, _, _, _, _, _, _, _, _, _, _, _, hB, hI, hcI⟩)
              exact absurd c240 (gT rfl rfl (show n + (uTl n (kN (tlB M (sc 1) (nI K1) (nI N1) (nI P1)) n)) ≤ n + t by omega) (by omega))
            | succ r ih =>
              intro t cells slots htr hcz hsz
              have ht : t < (uTl n (kN (tlB M (sc 1) (nI K1) (nI N1) (nI P1)) n)) := by omega
              have hj : n + t < n + (uTl n (kN (tlB M (sc 1) (nI K1) (nI N1) (nI P1)) n)) := by omega
              have hc1 : cells + 6 ≤ rm_L_turns.cells := Nat.le_trans (show cells + 6 ≤ 500 by omega) (Nat.le_of_ble_eq_true rfl)
              have hs1 : slots + 36 ≤ rm_L_turns.slots := Nat.le_trans (show slots + 36 ≤ 3000 by omega) (Nat.le_of_ble_eq_true rfl)
              refine q_iload F dL_turns_235 rfl ?_
              refine q_aload_n F 1 dL_turns_237 rfl rfl ?_
              refine q_iconst F dL_turns_238 hc_1 ?_
              refine q_cld F hB 1 rfl (by decide) dL_turns_239 ?_
              refine q_top (v' := .int (nI (n + (uTl n (kN (tlB M (sc 1) (nI K1) (nI N1) (nI P1)) n))))) ?_ (congrArg Value.int (hcI.2.1))
              refine q_icmp_ge F 305 dL_turns_240 rfl (fun c240 => ?_) (fun c240 => ?_)
              · exact absurd c240 (gF rfl rfl hj (by omega))
              refine q_iload F dL_turns_243 rfl ?_
              refine q_if_eq F 305 dL_turns_245 rfl (fun c245 => ?_) (fun c245 => ?_)
              · exact absurd c245 (by decide)
              refine q_aload_n F 0 dL_turns_248 rfl rfl ?_
              refine q_iload F dL_turns_249 rfl ?_
              refine q_callV_i F (n_keyOf hst hB hj) gL_turns_X4_keyOf rfl hd_X4_keyOf ⟨Nat.le_of_ble_eq_true rfl, Nat.le_of_ble_eq_true rfl⟩ (lB_o hB) rfl rfl rfl (Nat.le_of_ble_eq_true rfl) dL_turns_251 ⟨Nat.le_trans (lw_b1 (Nat.le_of_ble_eq_true rfl)) hc1, Nat.le_trans (lw_b1 (Nat.le_of_ble_eq_true rfl)) hs1⟩ ?_
              refine q_iload F dL_turns_254 rfl ?_
              refine q_icmp_ne F 296 dL_turns_256 rfl (fun c256 => ?_) (fun c256 => ?_)
              · exact absurd c256 (not_not_intro (by rw [ko_0 (hnew t ht).2.1]; exact (hnew t ht).1))
              refine q_aload_n F 0 dL_turns_259 rfl rfl ?_
              refine q_iload F dL_turns_260 rfl ?_
              refine q_callV_i F (n_seen hst hB hj) gL_turns_X4_seen rfl hd_X4_seen ⟨Nat.le_of_ble_eq_true rfl, Nat.le_of_ble_eq_true rfl⟩ (lB_o hB) rfl rfl rfl (Nat.le_of_ble_eq_true rfl) dL_turns_262 ⟨Nat.le_trans (lw_b2 (Nat.le_of_ble_eq_true rfl)) hc1, Nat.le_trans (lw_b2 (Nat.le_of_ble_eq_true rfl)) hs1⟩ ?_
              refine q_aload_n F 1 dL_turns_265 rfl rfl ?_
              refine q_iconst F dL_turns_266 hc_0 ?_
              refine q_cld F hB 0 rfl (by decide) dL_turns_267 ?_
              refine q_top (v' := .int (sc1 1)) ?_ (congrArg Value.int (hcI.1))
              refine q_icmp_ne F 296 dL_turns_268 rfl (fun c268 => ?_) (fun c268 => ?_)
              · exact absurd c268 (not_not_intro (hnew t ht).2.2.1)
              refine q_aload_n F 0 dL_turns_271 rfl rfl ?_
              refine q_iload F dL_turns_272 rfl ?_
              refine q_callV_i F (n_end hst hB hj) gL_turns_X4_end rfl hd_X4_end ⟨Nat.le_of_ble_eq_true rfl, Nat.le_of_ble_eq_true rfl⟩ (lB_o hB) rfl rfl rfl (Nat.le_of_ble_eq_true rfl) dL_turns_274 ⟨Nat.le_trans (lw_b3 (Nat.le_of_ble_eq_true rfl)) hc1, Nat.le_trans (lw_b3 (Nat.le_of_ble_eq_true rfl)) hs1⟩ ?_
              refine q_iconst F dL_turns_277 hc_m1 ?_
              refine q_icmp_ne F 296 dL_turns_278 rfl (fun c278 => ?_) (fun c278 => ?_)
              · exact absurd c278 (not_not_intro (hnew t ht).2.2.2.1)
              refine q_aload_n F 0 dL_turns_281 rfl rfl ?_
              refine q_iload F dL_turns_282 rfl ?_
              refine q_iload_n F 2 dL_turns_284 rfl rfl ?_
              refine q_iload_n F 3 dL_turns_285 rfl rfl ?_
              refine q_callV_i F (n_matches hst hB hj hNP) gL_turns_X4_matches rfl hd_X4_matches ⟨Nat.le_of_ble_eq_true rfl, Nat.le_of_ble_eq_true rfl⟩ (lB_o hB) rfl rfl rfl (Nat.le_of_ble_eq_true rfl) dL_turns_286 ⟨Nat.le_trans (lw_b4 (Nat.le_of_ble_eq_true rfl)) hc1, Nat.le_trans (lw_b4 (Nat.le_of_ble_eq_true rfl)) hs1⟩ ?_
              refine q_if_eq F 296 dL_turns_289 rfl (fun c289 => ?_) (fun c289 => ?_)
              · exact absurd c289 (b2_1 (hnew t ht).2.2.2.2)
              refine q_iconst F dL_turns_292 hc_1 ?_
              refine q_goto F 297 dL_turns_293 rfl ?_
              refine q_istore F dL_turns_297 (by decide) rfl ?_
              refine q_iinc F (nI (n + (t + 1))) dL_turns_299 rfl (nI_inc (n + t)) (by decide) rfl ?_
              refine q_goto F 235 dL_turns_302 rfl ?_
              exact q_widen (lw_b4 (Nat.le_of_ble_eq_true rfl)) (lw_b4 (Nat.le_of_ble_eq_true rfl)) (q_to (ih (t + 1) (cells + 6) (slots + 36) (by omega) (by omega) (by omega)) ⟨rfl, rfl, rfl, rfl, rfl, rfl, rfl, rfl, rfl, rfl, rfl, trivial⟩)
          exact q_to (L2 (uTl n (kN (tlB M (sc 1) (nI K1) (nI N1) (nI P1)) n)) 0 260 1560 (by omega) (by unfold uTl; omega) (by unfold uTl; omega)) ⟨rfl, rfl, rfl, rfl, rfl, rfl, rfl, rfl, rfl, rfl, rfl, trivial⟩
        exact absurd c69 (gT rfl rfl (show n ≤ j by omega) (by omega))
      | succ r ih =>
        intro j cells slots hjr hcz hsz
        have hj : j < n := by omega
        have hk := hI.1.1 j hj
        have hm := (hI.2.2 j hj).1
        have hc1 : cells + 6 ≤ rm_L_turns.cells := Nat.le_trans (show cells + 6 ≤ 248 by omega) (Nat.le_of_ble_eq_true rfl)
        have hs1 : slots + 36 ≤ rm_L_turns.slots := Nat.le_trans (show slots + 36 ≤ 1488 by omega) (Nat.le_of_ble_eq_true rfl)
        refine q_iload F dL_turns_64 rfl ?_
        refine q_aload_n F 1 dL_turns_66 rfl rfl ?_
        refine q_iconst F dL_turns_67 hc_1 ?_
        refine q_cld F hB 1 rfl (by decide) dL_turns_68 ?_
        refine q_top (v' := .int (nI n)) ?_ (congrArg Value.int (h1))
        refine q_icmp_ge F 144 dL_turns_69 rfl (fun c69 => ?_) (fun c69 => ?_)
        · exact absurd c69 (gF rfl rfl hj (by omega))
        refine q_aload_n F 0 dL_turns_72 rfl rfl ?_
        refine q_iload F dL_turns_73 rfl ?_
        refine q_callV_i F (n_end hst hB hj) gL_turns_X4_end rfl hd_X4_end ⟨Nat.le_of_ble_eq_true rfl, Nat.le_of_ble_eq_true rfl⟩ (lB_o hB) rfl rfl rfl (Nat.le_of_ble_eq_true rfl) dL_turns_75 ⟨Nat.le_trans (lw_b1 (Nat.le_of_ble_eq_true rfl)) hc1, Nat.le_trans (lw_b1 (Nat.le_of_ble_eq_true rfl)) hs1⟩ ?_
        refine q_cutB (tgt := 99) (st1 := []) (k := cells + 2) (n := slots + 12) (.int (b2 (en (sc 1) (M 8 j)))) (fun K78 => ?_) ?_
        · refine q_iconst F dL_turns_78 hc_m1 ?_
          refine q_icmp_eq F 98 dL_turns_79 rfl (fun c79 => ?_) (fun c79 => ?_)
          · refine q_iconst F dL_turns_98 hc_0 ?_
            exact q_widen (lw_b1 (Nat.le_of_ble_eq_true rfl)) (lw_b1 (Nat.le_of_ble_eq_true rfl)) (q_top K78 (congrArg Value.int (by first | exact en_f1 c79 | exact en_f2 c91 | exact en_t c79 c91)))
          refine q_aload_n F 0 dL_turns_82 rfl rfl ?_
          refine q_iload F dL_turns_83 rfl ?_
          refine q_callV_i F (n_end hst hB hj) gL_turns_X4_end rfl hd_X4_end ⟨Nat.le_of_ble_eq_true rfl, Nat.le_of_ble_eq_true rfl⟩ (lB_o hB) rfl rfl rfl (Nat.le_of_ble_eq_true rfl) dL_turns_85 ⟨Nat.le_trans (lw_b2 (Nat.le_of_ble_eq_true rfl)) hc1, Nat.le_trans (lw_b2 (Nat.le_of_ble_eq_true rfl)) hs1⟩ ?_
          refine q_aload_n F 1 dL_turns_88 rfl rfl ?_
          refine q_iconst F dL_turns_89 hc_0 ?_
          refine q_cld F hB 0 rfl (by decide) dL_turns_90 ?_
          refine q_top (v' := .int (sc 1)) ?_ (congrArg Value.int (h0))
          refine q_icmp_gt F 98 dL_turns_91 rfl (fun c91 => ?_) (fun c91 => ?_)
          · refine q_iconst F dL_turns_98 hc_0 ?_
            exact q_widen (lw_b2 (Nat.le_of_ble_eq_true rfl)) (lw_b2 (Nat.le_of_ble_eq_true rfl)) (q_top K78 (congrArg Value.int (by first | exact en_f1 c79 | exact en_f2 c91 | exact en_t c79 c91)))
          refine q_iconst F dL_turns_94 hc_1 ?_
          refine q_goto F 99 dL_turns_95 rfl ?_
          exact q_widen (lw_b2 (Nat.le_of_ble_eq_true rfl)) (lw_b2 (Nat.le_of_ble_eq_true rfl)) (q_top K78 (congrArg Value.int (by first | exact en_f1 c79 | exact en_f2 c91 | exact en_t c79 c91)))
        refine q_istore F dL_turns_99 (by decide) rfl ?_
        refine q_iload F dL_turns_101 rfl ?_
        refine q_cutB (tgt := 135) (st1 := [.int (nI (kN (tlB M (sc 1) (nI K1) (nI N1) (nI P1)) j))]) (k := cells + 6) (n := slots + 36) (.int (b2 (tlB M (sc 1) (nI K1) (nI N1) (nI P1) j))) (fun K103 => ?_) ?_
        · refine q_aload_n F 0 dL_turns_103 rfl rfl ?_
          refine q_iload F dL_turns_104 rfl ?_
          refine q_callV_i F (n_keyOf hst hB hj) gL_turns_X4_keyOf rfl hd_X4_keyOf ⟨Nat.le_of_ble_eq_true rfl, Nat.le_of_ble_eq_true rfl⟩ (lB_o hB) rfl rfl rfl (Nat.le_of_ble_eq_true rfl) dL_turns_106 ⟨Nat.le_trans (lw_b2 (Nat.le_of_ble_eq_true rfl)) hc1, Nat.le_trans (lw_b2 (Nat.le_of_ble_eq_true rfl)) hs1⟩ ?_
          refine q_iload F dL_turns_109 rfl ?_
          refine q_icmp_ne F 134 dL_turns_111 rfl (fun c111 => ?_) (fun c111 => ?_)
          · refine q_iconst F dL_turns_134 hc_0 ?_
            exact q_widen (lw_b2 (Nat.le_of_ble_eq_true rfl)) (lw_b2 (Nat.le_of_ble_eq_true rfl)) (q_top K103 (congrArg Value.int (by first | exact tlb_a hm hk hKo c111 | exact tlb_b c116 | exact tlb_c c127 | exact tlb_1 hm hk hKo c111 c116 c127)))
          refine q_iload F dL_turns_114 rfl ?_
          refine q_if_ne F 134 dL_turns_116 rfl (fun c116 => ?_) (fun c116 => ?_)
          · refine q_iconst F dL_turns_134 hc_0 ?_
            exact q_widen (lw_b2 (Nat.le_of_ble_eq_true rfl)) (lw_b2 (Nat.le_of_ble_eq_true rfl)) (q_top K103 (congrArg Value.int (by first | exact tlb_a hm hk hKo c111 | exact tlb_b c116 | exact tlb_c c127 | exact tlb_1 hm hk hKo c111 c116 c127)))
          refine q_aload_n F 0 dL_turns_119 rfl rfl ?_
          refine q_iload F dL_turns_120 rfl ?_
          refine q_iload_n F 2 dL_turns_122 rfl rfl ?_
          refine q_iload_n F 3 dL_turns_123 rfl rfl ?_
          refine q_callV_i F (n_matches hst hB hj hNP) gL_turns_X4_matches rfl hd_X4_matches ⟨Nat.le_of_ble_eq_true rfl, Nat.le_of_ble_eq_true rfl⟩ (lB_o hB) rfl rfl rfl (Nat.le_of_ble_eq_true rfl) dL_turns_124 ⟨Nat.le_trans (lw_b3 (Nat.le_of_ble_eq_true rfl)) hc1, Nat.le_trans (lw_b3 (Nat.le_of_ble_eq_true rfl)) hs1⟩ ?_
          refine q_if_eq F 134 dL_turns_127 rfl (fun c127 => ?_) (fun c127 => ?_)
          · refine q_iconst F dL_turns_134 hc_0 ?_
            exact q_widen (lw_b3 (Nat.le_of_ble_eq_true rfl)) (lw_b3 (Nat.le_of_ble_eq_true rfl)) (q_top K103 (congrArg Value.int (by first | exact tlb_a hm hk hKo c111 | exact tlb_b c116 | exact tlb_c c127 | exact tlb_1 hm hk hKo c111 c116 c127)))
          refine q_iconst F dL_turns_130 hc_1 ?_
          refine q_goto F 135 dL_turns_131 rfl ?_
          exact q_widen (lw_b3 (Nat.le_of_ble_eq_true rfl)) (lw_b3 (Nat.le_of_ble_eq_true rfl)) (q_top K103 (congrArg Value.int (by first | exact tlb_a hm hk hKo c111 | exact tlb_b c116 | exact tlb_c c127 | exact tlb_1 hm hk hKo c111 c116 c127)))
        refine q_iadd F dL_turns_135 ?_
        refine q_top (v' := .int (nI (kN (tlB M (sc 1) (nI K1) (nI N1) (nI P1)) (j + 1)))) ?_ (congrArg Value.int (kN_s))
        refine q_istore F dL_turns_136 (by decide) rfl ?_
        refine q_iinc F (nI (j + 1)) dL_turns_138 rfl (nI_inc j) (by decide) rfl ?_
        refine q_goto F 64 dL_turns_141 rfl ?_
        exact q_widen (lw_b1 (Nat.le_of_ble_eq_true rfl)) (lw_b1 (Nat.le_of_ble_eq_true rfl)) (q_to (ih (j + 1) (cells + 6) (slots + 36) (by omega) (by omega) (by omega)) ⟨rfl, rfl, rfl, rfl, rfl, rfl, rfl, rfl, rfl, trivial⟩)
    exact q_to (L n 0 8 48 (by omega) (by omega) (by omega)) ⟨rfl, rfl, rfl, rfl, rfl, rfl, rfl, rfl, rfl, trivial⟩
  refine q_aload_n F 0 dL_turns_32 rfl rfl ?_
  refine q_iload_n F 2 dL_turns_33 rfl rfl ?_
  refine q_iload_n F 3 dL_turns_34 rfl rfl ?_
  refine q_iload F dL_turns_35 rfl ?_
  refine q_iconst F dL_turns_37 hc_m1 ?_
  refine q_callV_i F (n_judge_n hst hB hNP hKo) gL_turns_X4_judge rfl hd_X4_judge ⟨Nat.le_of_ble_eq_true rfl, Nat.le_of_ble_eq_true rfl⟩ (lB_o hB) rfl rfl rfl (Nat.le_of_ble_eq_true rfl) dL_turns_38 ⟨Nat.le_of_ble_eq_true rfl, Nat.le_of_ble_eq_true rfl⟩ ?_
  refine q_aload_n F 0 dL_turns_41 rfl rfl ?_
  refine q_iload_n F 2 dL_turns_42 rfl rfl ?_
  refine q_iload_n F 3 dL_turns_43 rfl rfl ?_
  refine q_iload F dL_turns_44 rfl ?_
  refine q_callV_i F (n_judgeByReading hst hB hNP hKo) gL_turns_X4_judgeByReading rfl hd_X4_judgeByReading ⟨Nat.le_of_ble_eq_true rfl, Nat.le_of_ble_eq_true rfl⟩ (lB_o hB) rfl rfl rfl (Nat.le_of_ble_eq_true rfl) dL_turns_46 ⟨Nat.le_of_ble_eq_true rfl, Nat.le_of_ble_eq_true rfl⟩ ?_
  refine q_icmp_ne F 56 dL_turns_49 rfl (fun c49 => ?_) (fun c49 => ?_)
  · exact absurd c49 (not_not_intro rfl)
  refine q_iconst F dL_turns_52 hc_1 ?_
  refine q_goto F 57 dL_turns_53 rfl ?_
  exact (q_reti F hr rfl dL_turns_57 (Nat.le_of_ble_eq_true rfl) (Nat.le_of_ble_eq_true rfl) ⟨1, rfl, rfl, _, _, _, _, _, _, _, _, _, _, _, hB, hI, hcI⟩)

