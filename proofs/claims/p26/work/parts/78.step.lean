set_option maxHeartbeats 4000000 in
set_option maxRecDepth 100000 in
theorem t_adds {p : Program} {l : Launch} {e : Env} {s : State} {m : MethodId} {args : Array Value} {below : List Frame} {meth : Method} {c : Code} {g : hG} {X : va_W} {S : hS} (F : hF p l s m args meth c cL_step 12 wsL_step RL g) (hr : meth.sig.returnType = some .boolean) (hst : l.stackTraces = false) {h cA bk ca sa : Nat} {f : Nat → Int32} {ad pa : Nat → Nat} {sc : Nat → Int32} {M : Nat → Nat → Int32} {n nc ns : Nat} (hB : lB S h cA f bk ca sa ad pa sc M n nc ns) (hI : lI sc M n) (hcI : cI f sc M n nc ns) {A B : Nat} (hA1 : A < 2 ^ 31) (hb2 : B < 2 ^ 31) : V p l e rm_L_step s m args below meth c 12 g X (MQ below (hQ g X (pGI (fun r S' => r = 1 ∧ lW S' h cA))) args s rm_L_step.cells rm_L_step.slots (hA g)) S 0 0 [(0, .ref h), (1, .ref cA), (3, .int (nI A)), (4, .int (nI B)), (5, .int (nI (nmN A))), (6, .int (nI (B % 2))), (7, .int (nI (B / 2 % kdN A))), (8, .int (nI n))] 112 [] := by
  have h0 : f 0 = sc 1 := hcI.1
  have h1 : f 1 = nI n := hcI.2.1
  have h2 : f 2 = nI nc := hcI.2.2.1
  have h3 : f 3 = nI ns := hcI.2.2.2.1
  have h4 : f 4 = sc 2 := hcI.2.2.2.2.1
  have h6 : f 6 = sc 29 + 1 := hcI.2.2.2.2.2.1
  have hn40 := lB_n hB
  have hnc20 := lB_nc hB
  have hns20 := lB_ns hB
  have hNP : okNP (nI (nmN A)) (nI (B % 2)) = true := okNP_v (nmN_le A) (by omega)
  have hk7 : (B / 2 % kdN A) ≤ 199 := by have h9 := kdN_in A; have := Nat.mod_lt (B / 2) (show 0 < kdN A by omega); omega
  have hK : okK (nI (B / 2 % kdN A)) = true := okK_v hk7
  refine q_iload F dL_step_112 rfl ?_
  refine q_bipush (v := 40) F dL_step_114 (by decide) ?_
  refine q_icmp_eq F 136 dL_step_116 rfl (fun c116 => ?_) (fun c116 => ?_)
  · refine q_iconst F dL_step_136 hc_1 ?_
    refine q_goto F 141 dL_step_137 rfl ?_
    exact (q_reti F hr rfl dL_step_141 (Nat.le_of_ble_eq_true rfl) (Nat.le_of_ble_eq_true rfl) ⟨1, rfl, rfl, by first | exact hW | exact ⟨_, _, _, _, _, _, _, _, _, _, _, hB, hI, hcI⟩⟩)
  have hn : n < 40 := lt_ne hn40 (by decide) c116
  refine q_aload_n F 0 dL_step_119 rfl rfl ?_
  refine q_aload_n F 1 dL_step_120 rfl rfl ?_
  refine q_iload_n F 3 dL_step_121 rfl rfl ?_
  refine q_iload F dL_step_122 rfl ?_
  refine q_iload F dL_step_124 rfl ?_
  refine q_iload F dL_step_126 rfl ?_
  refine q_iload F dL_step_128 rfl ?_
  refine q_callS_gi F (c_L_adds hst hB hI hcI hA1 hb2 (nmN_le A) (show (B % 2) ≤ 1 by omega) hk7 hn) gL_step_L_adds rfl hd_L_adds ⟨Nat.le_of_ble_eq_true rfl, Nat.le_of_ble_eq_true rfl⟩ rfl rfl (Nat.le_of_ble_eq_true rfl) dL_step_130 ⟨Nat.le_of_ble_eq_true rfl, Nat.le_of_ble_eq_true rfl⟩ (fun r S130 hp => ?_)
  obtain ⟨rfl, hW⟩ := hp
  refine q_if_eq F 140 dL_step_133 rfl (fun c133 => ?_) (fun c133 => ?_)
  · exact absurd c133 (by decide)
  refine q_iconst F dL_step_136 hc_1 ?_
  refine q_goto F 141 dL_step_137 rfl ?_
  exact (q_reti F hr rfl dL_step_141 (Nat.le_of_ble_eq_true rfl) (Nat.le_of_ble_eq_true rfl) ⟨1, rfl, rfl, by first | exact hW | exact ⟨_, _, _, _, _, _, _, _, _, _, _, hB, hI, hcI⟩⟩)

set_option maxHeartbeats 4000000 in
set_option maxRecDepth 100000 in
theorem t_hash {p : Program} {l : Launch} {e : Env} {s : State} {m : MethodId} {args : Array Value} {below : List Frame} {meth : Method} {c : Code} {g : hG} {X : va_W} {S : hS} (F : hF p l s m args meth c cL_step 12 wsL_step RL g) (hr : meth.sig.returnType = some .boolean) (hst : l.stackTraces = false) {h cA bk ca sa : Nat} {f : Nat → Int32} {ad pa : Nat → Nat} {sc : Nat → Int32} {M : Nat → Nat → Int32} {n nc ns : Nat} (hB : lB S h cA f bk ca sa ad pa sc M n nc ns) (hI : lI sc M n) (hcI : cI f sc M n nc ns) {A B : Nat} (hA1 : A < 2 ^ 31) (hb2 : B < 2 ^ 31) : V p l e rm_L_step s m args below meth c 12 g X (MQ below (hQ g X (pGI (fun r S' => r = 1 ∧ lW S' h cA))) args s rm_L_step.cells rm_L_step.slots (hA g)) S 0 0 [(0, .ref h), (1, .ref cA), (3, .int (nI A)), (4, .int (nI B)), (5, .int (nI (nmN A))), (6, .int (nI (B % 2))), (7, .int (nI (B / 2 % kdN A))), (8, .int (nI n))] 142 [] := by
  have h0 : f 0 = sc 1 := hcI.1
  have h1 : f 1 = nI n := hcI.2.1
  have h2 : f 2 = nI nc := hcI.2.2.1
  have h3 : f 3 = nI ns := hcI.2.2.2.1
  have h4 : f 4 = sc 2 := hcI.2.2.2.2.1
  have h6 : f 6 = sc 29 + 1 := hcI.2.2.2.2.2.1
  have hn40 := lB_n hB
  have hnc20 := lB_nc hB
  have hns20 := lB_ns hB
  have hNP : okNP (nI (nmN A)) (nI (B % 2)) = true := okNP_v (nmN_le A) (by omega)
  have hk7 : (B / 2 % kdN A) ≤ 199 := by have h9 := kdN_in A; have := Nat.mod_lt (B / 2) (show 0 < kdN A by omega); omega
  have hK : okK (nI (B / 2 % kdN A)) = true := okK_v hk7
  refine q_iload F dL_step_142 rfl ?_
  refine q_bipush (v := 40) F dL_step_144 (by decide) ?_
  refine q_icmp_ne F 164 dL_step_146 rfl (fun c146 => ?_) (fun c146 => ?_)
  · have hn : n < 40 := lt_ne hn40 (by decide) c146
    have hj : n < n + 1 := Nat.lt_succ_self n
    refine q_aload_n F 1 dL_step_164 rfl rfl ?_
    refine q_iconst F dL_step_165 hc_1 ?_
    refine q_dup2 F dL_step_166 rfl rfl ?_
    refine q_cld F hB 1 rfl (by decide) dL_step_167 ?_
    refine q_top (v' := .int (nI n)) ?_ (congrArg Value.int (h1))
    refine q_iconst F dL_step_168 hc_1 ?_
    refine q_iadd F dL_step_169 ?_
    refine q_top (v' := .int (nI (n + 1))) ?_ (congrArg Value.int (nI_1 n))
    refine q_cst F hB 1 rfl (by decide) dL_step_170 (fun S170 hB => ?_)
    refine q_aload_n F 0 dL_step_171 rfl rfl ?_
    refine q_cutB (tgt := 185) (st1 := [.ref h]) (k := 0) (n := 0) (.int (nI (hmN B))) (fun K172 => ?_) ?_
    · refine q_iload F dL_step_172 rfl ?_
      refine q_bipush (v := 11) F dL_step_174 (by decide) ?_
      refine q_irem F dL_step_176 (by decide) ?_
      refine q_if_ne F 184 dL_step_177 rfl (fun c177 => ?_) (fun c177 => ?_)
      · refine q_iconst F dL_step_184 hc_0 ?_
        exact (q_top K172 (congrArg Value.int (by first | exact hm_0 hb2 c177 | exact hm_1 hb2 c177)))
      refine q_iconst F dL_step_180 hc_1 ?_
      refine q_goto F 185 dL_step_181 rfl ?_
      exact (q_top K172 (congrArg Value.int (by first | exact hm_0 hb2 c177 | exact hm_1 hb2 c177)))
    refine q_iload F dL_step_185 rfl ?_
    refine q_iload F dL_step_187 rfl ?_
    refine q_iload F dL_step_189 rfl ?_
    refine q_iload_n F 3 dL_step_191 rfl rfl ?_
    refine q_bipush (v := 7) F dL_step_192 (by decide) ?_
    refine q_idiv F dL_step_194 (by decide) ?_
    refine q_top (v' := .int (nI (A / 7))) ?_ (congrArg Value.int (pk_div (d := 7) (by omega) (by decide) (by decide)))
    refine q_bipush (v := 100) F dL_step_195 (by decide) ?_
    refine q_irem F dL_step_197 (by decide) ?_
    refine q_top (v' := .int (nI (A / 7 % 100))) ?_ (congrArg Value.int (nI_mod (d := 100) (by omega) (by decide) (by decide)))
    refine q_callV_gi F (n_addHashed hst hB (inR_nI (a := 0) (b := 2) (Nat.zero_le _) (hmN_le B) (by decide)) hK hNP (inR_nI (a := 0) (b := 99) (Nat.zero_le _) (by omega) (by decide)) hn) gL_step_X4_addHashed rfl hd_X4_addHashed ⟨Nat.le_of_ble_eq_true rfl, Nat.le_of_ble_eq_true rfl⟩ (lB_o hB) rfl rfl rfl (Nat.le_of_ble_eq_true rfl) dL_step_198 ⟨Nat.le_of_ble_eq_true rfl, Nat.le_of_ble_eq_true rfl⟩ (fun r S198 hp => ?_)
    obtain ⟨sc1, M1, rfl, hB, hI, hcI, hmt⟩ := ex_hash hp hI hcI (hmN_P B) hK (nI_nm1 (by omega))
    obtain ⟨kf, hkf, efd⟩ := fd_wit (f := fun i => mt M1 i (nI (nmN A)) (nI (B % 2))) hj (by show mt M1 n (nI (nmN A)) (nI (B % 2)) = true; rw [hmt]; simp) (n + 1) (Nat.le_refl _) (by omega)
    refine q_iload F dL_step_201 rfl ?_
    refine q_icmp_ne F 264 dL_step_203 rfl (fun c203 => ?_) (fun c203 => ?_)
    · exact absurd c203 (not_not_intro rfl)
    refine q_aload_n F 0 dL_step_206 rfl rfl ?_
    refine q_iload F dL_step_207 rfl ?_
    refine q_iload F dL_step_209 rfl ?_
    refine q_iload F dL_step_211 rfl ?_
    refine q_callV_i F (n_matches hst hB hj hNP) gL_step_X4_matches rfl hd_X4_matches ⟨Nat.le_of_ble_eq_true rfl, Nat.le_of_ble_eq_true rfl⟩ (lB_o hB) rfl rfl rfl (Nat.le_of_ble_eq_true rfl) dL_step_213 ⟨Nat.le_of_ble_eq_true rfl, Nat.le_of_ble_eq_true rfl⟩ ?_
    refine q_if_eq F 264 dL_step_216 rfl (fun c216 => ?_) (fun c216 => ?_)
    · exact absurd c216 (b2_1 (by rw [hmt]; simp))
    refine q_aload_n F 0 dL_step_219 rfl rfl ?_
    refine q_iload F dL_step_220 rfl ?_
    refine q_iload F dL_step_222 rfl ?_
    refine q_iload F dL_step_224 rfl ?_
    refine q_iconst F dL_step_226 hc_1 ?_
    refine q_iadd F dL_step_227 ?_
    refine q_top (v' := .int (nI (B % 2 + 1))) ?_ (congrArg Value.int (nI_1 _))
    refine q_iconst F dL_step_228 hc_4 ?_
    refine q_irem F dL_step_229 (by decide) ?_
    refine q_top (v' := .int (nI ((B % 2 + 1) % 4))) ?_ (congrArg Value.int (nI_mod (d := 4) (by omega) (by decide) (by decide)))
    refine q_callV_i F (n_matches hst hB hj (okNP_v (nmN_le A) (by omega))) gL_step_X4_matches rfl hd_X4_matches ⟨Nat.le_of_ble_eq_true rfl, Nat.le_of_ble_eq_true rfl⟩ (lB_o hB) rfl rfl rfl (Nat.le_of_ble_eq_true rfl) dL_step_230 ⟨Nat.le_of_ble_eq_true rfl, Nat.le_of_ble_eq_true rfl⟩ ?_
    refine q_if_ne F 264 dL_step_233 rfl (fun c233 => ?_) (fun c233 => ?_)
    · exact absurd c233 (not_not_intro (b2_z (by rw [hmt, decide_eq_false (fun z => by rw [nI_eq (by omega) (by omega)] at z; omega)]; rfl)))
    refine q_aload_n F 0 dL_step_236 rfl rfl ?_
    refine q_iload F dL_step_237 rfl ?_
    refine q_iload F dL_step_239 rfl ?_
    refine q_callV_i F (n_find hst hB hNP) gL_step_X4_find rfl hd_X4_find ⟨Nat.le_of_ble_eq_true rfl, Nat.le_of_ble_eq_true rfl⟩ (lB_o hB) rfl rfl rfl (Nat.le_of_ble_eq_true rfl) dL_step_241 ⟨Nat.le_of_ble_eq_true rfl, Nat.le_of_ble_eq_true rfl⟩ ?_
    refine q_if_lt F 264 dL_step_244 rfl (fun c244 => ?_) (fun c244 => ?_)
    · exact absurd c244 (by rw [efd]; exact nI_pos (by omega))
    refine q_aload_n F 0 dL_step_247 rfl rfl ?_
    refine q_iload F dL_step_248 rfl ?_
    refine q_iload F dL_step_250 rfl ?_
    refine q_callV_i F (n_find hst hB hNP) gL_step_X4_find rfl hd_X4_find ⟨Nat.le_of_ble_eq_true rfl, Nat.le_of_ble_eq_true rfl⟩ (lB_o hB) rfl rfl rfl (Nat.le_of_ble_eq_true rfl) dL_step_252 ⟨Nat.le_of_ble_eq_true rfl, Nat.le_of_ble_eq_true rfl⟩ ?_
    refine q_iload F dL_step_255 rfl ?_
    refine q_icmp_gt F 264 dL_step_257 rfl (fun c257 => ?_) (fun c257 => ?_)
    · exact absurd c257 (by rw [efd]; exact nI_nlt hkf (by omega))
    refine q_iconst F dL_step_260 hc_1 ?_
    refine q_goto F 265 dL_step_261 rfl ?_
    exact (q_reti F hr rfl dL_step_265 (Nat.le_of_ble_eq_true rfl) (Nat.le_of_ble_eq_true rfl) ⟨1, rfl, rfl, by first | exact hW | exact ⟨_, _, _, _, _, _, _, _, _, _, _, hB, hI, hcI⟩⟩)
  refine q_aload_n F 0 dL_step_149 rfl rfl ?_
  refine q_callV_i F (n_lines hB) gL_step_X4_lines rfl hd_X4_lines ⟨Nat.le_of_ble_eq_true rfl, Nat.le_of_ble_eq_true rfl⟩ (lB_o hB) rfl rfl rfl (Nat.le_of_ble_eq_true rfl) dL_step_150 ⟨Nat.le_of_ble_eq_true rfl, Nat.le_of_ble_eq_true rfl⟩ ?_
  refine q_bipush (v := 40) F dL_step_153 (by decide) ?_
  refine q_icmp_ne F 162 dL_step_155 rfl (fun c155 => ?_) (fun c155 => ?_)
  · exact absurd c155 (not_not_intro c146)
  refine q_iconst F dL_step_158 hc_1 ?_
  refine q_goto F 163 dL_step_159 rfl ?_
  exact (q_reti F hr rfl dL_step_163 (Nat.le_of_ble_eq_true rfl) (Nat.le_of_ble_eq_true rfl) ⟨1, rfl, rfl, by first | exact hW | exact ⟨_, _, _, _, _, _, _, _, _, _, _, hB, hI, hcI⟩⟩)

set_option maxHeartbeats 4000000 in
set_option maxRecDepth 100000 in
theorem t_remove {p : Program} {l : Launch} {e : Env} {s : State} {m : MethodId} {args : Array Value} {below : List Frame} {meth : Method} {c : Code} {g : hG} {X : va_W} {S : hS} (F : hF p l s m args meth c cL_step 12 wsL_step RL g) (hr : meth.sig.returnType = some .boolean) (hst : l.stackTraces = false) {h cA bk ca sa : Nat} {f : Nat → Int32} {ad pa : Nat → Nat} {sc : Nat → Int32} {M : Nat → Nat → Int32} {n nc ns : Nat} (hB : lB S h cA f bk ca sa ad pa sc M n nc ns) (hI : lI sc M n) (hcI : cI f sc M n nc ns) {A B : Nat} (hA1 : A < 2 ^ 31) (hb2 : B < 2 ^ 31) : V p l e rm_L_step s m args below meth c 12 g X (MQ below (hQ g X (pGI (fun r S' => r = 1 ∧ lW S' h cA))) args s rm_L_step.cells rm_L_step.slots (hA g)) S 0 0 [(0, .ref h), (1, .ref cA), (3, .int (nI A)), (4, .int (nI B)), (5, .int (nI (nmN A))), (6, .int (nI (B % 2))), (7, .int (nI (B / 2 % kdN A))), (8, .int (nI n))] 266 [] := by
  have h0 : f 0 = sc 1 := hcI.1
  have h1 : f 1 = nI n := hcI.2.1
  have h2 : f 2 = nI nc := hcI.2.2.1
  have h3 : f 3 = nI ns := hcI.2.2.2.1
  have h4 : f 4 = sc 2 := hcI.2.2.2.2.1
  have h6 : f 6 = sc 29 + 1 := hcI.2.2.2.2.2.1
  have hn40 := lB_n hB
  have hnc20 := lB_nc hB
  have hns20 := lB_ns hB
  have hNP : okNP (nI (nmN A)) (nI (B % 2)) = true := okNP_v (nmN_le A) (by omega)
  have hk7 : (B / 2 % kdN A) ≤ 199 := by have h9 := kdN_in A; have := Nat.mod_lt (B / 2) (show 0 < kdN A by omega); omega
  have hK : okK (nI (B / 2 % kdN A)) = true := okK_v hk7
  refine q_iload F dL_step_266 rfl ?_
  refine q_if_eq F 278 dL_step_268 rfl (fun c268 => ?_) (fun c268 => ?_)
  · refine q_aload_n F 0 dL_step_278 rfl rfl ?_
    refine q_callV_i F (n_lines hB) gL_step_X4_lines rfl hd_X4_lines ⟨Nat.le_of_ble_eq_true rfl, Nat.le_of_ble_eq_true rfl⟩ (lB_o hB) rfl rfl rfl (Nat.le_of_ble_eq_true rfl) dL_step_279 ⟨Nat.le_of_ble_eq_true rfl, Nat.le_of_ble_eq_true rfl⟩ ?_
    refine q_iload F dL_step_282 rfl ?_
    refine q_icmp_ne F 291 dL_step_284 rfl (fun c284 => ?_) (fun c284 => ?_)
    · exact absurd c284 (not_not_intro rfl)
    refine q_iconst F dL_step_287 hc_1 ?_
    refine q_goto F 292 dL_step_288 rfl ?_
    exact (q_reti F hr rfl dL_step_292 (Nat.le_of_ble_eq_true rfl) (Nat.le_of_ble_eq_true rfl) ⟨1, rfl, rfl, by first | exact hW | exact ⟨_, _, _, _, _, _, _, _, _, _, _, hB, hI, hcI⟩⟩)
  refine q_iload F dL_step_271 rfl ?_
  refine q_iconst F dL_step_273 hc_3 ?_
  refine q_irem F dL_step_274 (by decide) ?_
  refine q_if_le F 293 dL_step_275 rfl (fun c275 => ?_) (fun c275 => ?_)
  · have hn0 : 0 < n := by rw [show (0 : Int32) = nI 0 from rfl, nI_eq (by omega) (by decide)] at c268; omega
    have hj : A % n < n := Nat.mod_lt _ hn0
    have hk := hI.1.1 _ hj
    have hm := (hI.2.2 _ hj).1
    refine q_aload_n F 0 dL_step_293 rfl rfl ?_
    refine q_iload_n F 3 dL_step_294 rfl rfl ?_
    refine q_iload F dL_step_295 rfl ?_
    refine q_irem F dL_step_297 c268 ?_
    refine q_top (v' := .int (nI (A % n))) ?_ (congrArg Value.int (nI_mod hA1 hn0 (by omega)))
    refine q_callV_i F (n_keyOf hst hB hj) gL_step_X4_keyOf rfl hd_X4_keyOf ⟨Nat.le_of_ble_eq_true rfl, Nat.le_of_ble_eq_true rfl⟩ (lB_o hB) rfl rfl rfl (Nat.le_of_ble_eq_true rfl) dL_step_298 ⟨Nat.le_of_ble_eq_true rfl, Nat.le_of_ble_eq_true rfl⟩ ?_
    refine q_sipush (v := 1000) F dL_step_301 (by decide) ?_
    refine q_irem F dL_step_304 (by decide) ?_
    refine q_top (v' := .int (M 5 (A % n))) ?_ (congrArg Value.int (ko_mod hm hk))
    refine q_istore F dL_step_305 (by decide) rfl ?_
    refine q_aload_n F 1 dL_step_307 rfl rfl ?_
    refine q_iconst F dL_step_308 hc_1 ?_
    refine q_dup2 F dL_step_309 rfl rfl ?_
    refine q_cld F hB 1 rfl (by decide) dL_step_310 ?_
    refine q_top (v' := .int (nI n)) ?_ (congrArg Value.int (h1))
    refine q_iconst F dL_step_311 hc_1 ?_
    refine q_isub F dL_step_312 ?_
    refine q_top (v' := .int (nI (n - 1))) ?_ (congrArg Value.int (pk_sub (b := 1) hn0))
    refine q_cst F hB 1 rfl (by decide) dL_step_313 (fun S313 hB => ?_)
    refine q_aload_n F 0 dL_step_314 rfl rfl ?_
    refine q_iload_n F 3 dL_step_315 rfl rfl ?_
    refine q_iload F dL_step_316 rfl ?_
    refine q_irem F dL_step_318 c268 ?_
    refine q_top (v' := .int (nI (A % n))) ?_ (congrArg Value.int (nI_mod hA1 hn0 (by omega)))
    refine q_callV_gi F (n_remove hst hB hj) gL_step_X4_remove rfl hd_X4_remove ⟨Nat.le_of_ble_eq_true rfl, Nat.le_of_ble_eq_true rfl⟩ (lB_o hB) rfl rfl rfl (Nat.le_of_ble_eq_true rfl) dL_step_319 ⟨Nat.le_of_ble_eq_true rfl, Nat.le_of_ble_eq_true rfl⟩ (fun r S319 hp => ?_)
    obtain ⟨ad1, sc1, M1, rfl, hB, hI, hcI⟩ := ex_rem hj hp hI hcI
    refine q_iload F dL_step_322 rfl ?_
    refine q_icmp_ne F 342 dL_step_324 rfl (fun c324 => ?_) (fun c324 => ?_)
    · exact absurd c324 (not_not_intro rfl)
    refine q_aload_n F 0 dL_step_327 rfl rfl ?_
    refine q_callV_i F (n_lines hB) gL_step_X4_lines rfl hd_X4_lines ⟨Nat.le_of_ble_eq_true rfl, Nat.le_of_ble_eq_true rfl⟩ (lB_o hB) rfl rfl rfl (Nat.le_of_ble_eq_true rfl) dL_step_328 ⟨Nat.le_of_ble_eq_true rfl, Nat.le_of_ble_eq_true rfl⟩ ?_
    refine q_iload F dL_step_331 rfl ?_
    refine q_iconst F dL_step_333 hc_1 ?_
    refine q_isub F dL_step_334 ?_
    refine q_top (v' := .int (nI (n - 1))) ?_ (congrArg Value.int (pk_sub (b := 1) hn0))
    refine q_icmp_ne F 342 dL_step_335 rfl (fun c335 => ?_) (fun c335 => ?_)
    · exact absurd c335 (not_not_intro rfl)
    refine q_iconst F dL_step_338 hc_1 ?_
    refine q_goto F 343 dL_step_339 rfl ?_
    exact (q_reti F hr rfl dL_step_343 (Nat.le_of_ble_eq_true rfl) (Nat.le_of_ble_eq_true rfl) ⟨1, rfl, rfl, by first | exact hW | exact ⟨_, _, _, _, _, _, _, _, _, _, _, hB, hI, hcI⟩⟩)
  refine q_aload_n F 0 dL_step_278 rfl rfl ?_
  refine q_callV_i F (n_lines hB) gL_step_X4_lines rfl hd_X4_lines ⟨Nat.le_of_ble_eq_true rfl, Nat.le_of_ble_eq_true rfl⟩ (lB_o hB) rfl rfl rfl (Nat.le_of_ble_eq_true rfl) dL_step_279 ⟨Nat.le_of_ble_eq_true rfl, Nat.le_of_ble_eq_true rfl⟩ ?_
  refine q_iload F dL_step_282 rfl ?_
  refine q_icmp_ne F 291 dL_step_284 rfl (fun c284 => ?_) (fun c284 => ?_)
  · exact absurd c284 (not_not_intro rfl)
  refine q_iconst F dL_step_287 hc_1 ?_
  refine q_goto F 292 dL_step_288 rfl ?_
  exact (q_reti F hr rfl dL_step_292 (Nat.le_of_ble_eq_true rfl) (Nat.le_of_ble_eq_true rfl) ⟨1, rfl, rfl, by first | exact hW | exact ⟨_, _, _, _, _, _, _, _, _, _, _, hB, hI, hcI⟩⟩)

set_option maxHeartbeats 4000000 in
set_option maxRecDepth 100000 in
theorem t_certs {p : Program} {l : Launch} {e : Env} {s : State} {m : MethodId} {args : Array Value} {below : List Frame} {meth : Method} {c : Code} {g : hG} {X : va_W} {S : hS} (F : hF p l s m args meth c cL_step 12 wsL_step RL g) (hr : meth.sig.returnType = some .boolean) (hst : l.stackTraces = false) {h cA bk ca sa : Nat} {f : Nat → Int32} {ad pa : Nat → Nat} {sc : Nat → Int32} {M : Nat → Nat → Int32} {n nc ns : Nat} (hB : lB S h cA f bk ca sa ad pa sc M n nc ns) (hI : lI sc M n) (hcI : cI f sc M n nc ns) {A B : Nat} (hA1 : A < 2 ^ 31) (hb2 : B < 2 ^ 31) : V p l e rm_L_step s m args below meth c 12 g X (MQ below (hQ g X (pGI (fun r S' => r = 1 ∧ lW S' h cA))) args s rm_L_step.cells rm_L_step.slots (hA g)) S 0 0 [(0, .ref h), (1, .ref cA), (3, .int (nI A)), (4, .int (nI B)), (5, .int (nI (nmN A))), (6, .int (nI (B % 2))), (7, .int (nI (B / 2 % kdN A))), (8, .int (nI n))] 344 [] := by
  have h0 : f 0 = sc 1 := hcI.1
  have h1 : f 1 = nI n := hcI.2.1
  have h2 : f 2 = nI nc := hcI.2.2.1
  have h3 : f 3 = nI ns := hcI.2.2.2.1
  have h4 : f 4 = sc 2 := hcI.2.2.2.2.1
  have h6 : f 6 = sc 29 + 1 := hcI.2.2.2.2.2.1
  have hn40 := lB_n hB
  have hnc20 := lB_nc hB
  have hns20 := lB_ns hB
  have hNP : okNP (nI (nmN A)) (nI (B % 2)) = true := okNP_v (nmN_le A) (by omega)
  have hk7 : (B / 2 % kdN A) ≤ 199 := by have h9 := kdN_in A; have := Nat.mod_lt (B / 2) (show 0 < kdN A by omega); omega
  have hK : okK (nI (B / 2 % kdN A)) = true := okK_v hk7
  refine q_aload_n F 0 dL_step_344 rfl rfl ?_
  refine q_aload_n F 1 dL_step_345 rfl rfl ?_
  refine q_iload_n F 3 dL_step_346 rfl rfl ?_
  refine q_iload F dL_step_347 rfl ?_
  refine q_iload F dL_step_349 rfl ?_
  refine q_iload F dL_step_351 rfl ?_
  refine q_callS_gi F (c_L_certificates hst hB hI hcI hA1 hb2 (nmN_le A) hk7) gL_step_L_certificates rfl hd_L_certificates ⟨Nat.le_of_ble_eq_true rfl, Nat.le_of_ble_eq_true rfl⟩ rfl rfl (Nat.le_of_ble_eq_true rfl) dL_step_353 ⟨Nat.le_of_ble_eq_true rfl, Nat.le_of_ble_eq_true rfl⟩ (fun r S353 hp => ?_)
  obtain ⟨rfl, hW⟩ := hp
  exact (q_reti F hr rfl dL_step_356 (Nat.le_of_ble_eq_true rfl) (Nat.le_of_ble_eq_true rfl) ⟨1, rfl, rfl, by first | exact hW | exact ⟨_, _, _, _, _, _, _, _, _, _, _, hB, hI, hcI⟩⟩)

set_option maxHeartbeats 4000000 in
set_option maxRecDepth 100000 in
theorem t_sight {p : Program} {l : Launch} {e : Env} {s : State} {m : MethodId} {args : Array Value} {below : List Frame} {meth : Method} {c : Code} {g : hG} {X : va_W} {S : hS} (F : hF p l s m args meth c cL_step 12 wsL_step RL g) (hr : meth.sig.returnType = some .boolean) (hst : l.stackTraces = false) {h cA bk ca sa : Nat} {f : Nat → Int32} {ad pa : Nat → Nat} {sc : Nat → Int32} {M : Nat → Nat → Int32} {n nc ns : Nat} (hB : lB S h cA f bk ca sa ad pa sc M n nc ns) (hI : lI sc M n) (hcI : cI f sc M n nc ns) {A B : Nat} (hA1 : A < 2 ^ 31) (hb2 : B < 2 ^ 31) : V p l e rm_L_step s m args below meth c 12 g X (MQ below (hQ g X (pGI (fun r S' => r = 1 ∧ lW S' h cA))) args s rm_L_step.cells rm_L_step.slots (hA g)) S 0 0 [(0, .ref h), (1, .ref cA), (3, .int (nI A)), (4, .int (nI B)), (5, .int (nI (nmN A))), (6, .int (nI (B % 2))), (7, .int (nI (B / 2 % kdN A))), (8, .int (nI n))] 357 [] := by
  have h0 : f 0 = sc 1 := hcI.1
  have h1 : f 1 = nI n := hcI.2.1
  have h2 : f 2 = nI nc := hcI.2.2.1
  have h3 : f 3 = nI ns := hcI.2.2.2.1
  have h4 : f 4 = sc 2 := hcI.2.2.2.2.1
  have h6 : f 6 = sc 29 + 1 := hcI.2.2.2.2.2.1
  have hn40 := lB_n hB
  have hnc20 := lB_nc hB
  have hns20 := lB_ns hB
  have hNP : okNP (nI (nmN A)) (nI (B % 2)) = true := okNP_v (nmN_le A) (by omega)
  have hk7 : (B / 2 % kdN A) ≤ 199 := by have h9 := kdN_in A; have := Nat.mod_lt (B / 2) (show 0 < kdN A by omega); omega
  have hK : okK (nI (B / 2 % kdN A)) = true := okK_v hk7
  refine q_aload_n F 1 dL_step_357 rfl rfl ?_
  refine q_iconst F dL_step_358 hc_4 ?_
  refine q_cld F hB 4 rfl (by decide) dL_step_359 ?_
  refine q_top (v' := .int (sc 2)) ?_ (congrArg Value.int (h4))
  refine q_istore F dL_step_360 (by decide) rfl ?_
  refine q_aload_n F 1 dL_step_362 rfl rfl ?_
  refine q_iconst F dL_step_363 hc_4 ?_
  refine q_iload_n F 3 dL_step_364 rfl rfl ?_
  refine q_iconst F dL_step_365 hc_3 ?_
  refine q_irem F dL_step_366 (by decide) ?_
  refine q_top (v' := .int (nI (A % 3))) ?_ (congrArg Value.int (nI_mod (d := 3) (by omega) (by decide) (by decide)))
  refine q_cst F hB 4 rfl (by decide) dL_step_367 (fun S367 hB => ?_)
  refine q_aload_n F 1 dL_step_368 rfl rfl ?_
  refine q_iconst F dL_step_369 hc_5 ?_
  refine q_iload F dL_step_370 rfl ?_
  refine q_iconst F dL_step_372 hc_2 ?_
  refine q_irem F dL_step_373 (by decide) ?_
  refine q_top (v' := .int (nI (B % 2))) ?_ (congrArg Value.int (nI_mod (d := 2) (by omega) (by decide) (by decide)))
  refine q_cst F hB 5 rfl (by decide) dL_step_374 (fun S374 hB => ?_)
  refine q_aload_n F 0 dL_step_375 rfl rfl ?_
  refine q_iload_n F 3 dL_step_376 rfl rfl ?_
  refine q_iconst F dL_step_377 hc_3 ?_
  skip
  refine q_irem F dL_step_378 (by decide) ?_
  refine q_top (v' := .int (nI (A % 3))) ?_ (congrArg Value.int (nI_mod (d := 3) (by omega) (by decide) (by decide)))
  refine q_cutB (tgt := 392) (st1 := [.int (nI (A % 3)), .ref h]) (k := 0) (n := 0) (.int (b2 (decide (B % 2 = 1)))) (fun K379 => ?_) ?_
  · refine q_iload F dL_step_379 rfl ?_
    refine q_iconst F dL_step_381 hc_2 ?_
    refine q_irem F dL_step_382 (by decide) ?_
    refine q_top (v' := .int (nI (B % 2))) ?_ (congrArg Value.int (nI_mod (d := 2) (by omega) (by decide) (by decide)))
    refine q_iconst F dL_step_383 hc_1 ?_
    refine q_icmp_ne F 391 dL_step_384 rfl (fun c384 => ?_) (fun c384 => ?_)
    · refine q_iconst F dL_step_391 hc_0 ?_
      exact (q_top K379 (congrArg Value.int (by first | exact sb_1 c384 | exact sb_0 c384)))
    refine q_iconst F dL_step_387 hc_1 ?_
    refine q_goto F 392 dL_step_388 rfl ?_
    exact (q_top K379 (congrArg Value.int (by first | exact sb_1 c384 | exact sb_0 c384)))
  refine q_callV_gi F (n_setFirstSight hst hB (b2_isB _) (inR_nI (a := 0) (b := 2) (Nat.zero_le _) (show A % 3 ≤ 2 by omega) (by decide))) gL_step_X4_setFirstSight rfl hd_X4_setFirstSight ⟨Nat.le_of_ble_eq_true rfl, Nat.le_of_ble_eq_true rfl⟩ (lB_o hB) rfl rfl rfl (Nat.le_of_ble_eq_true rfl) dL_step_392 ⟨Nat.le_of_ble_eq_true rfl, Nat.le_of_ble_eq_true rfl⟩ (fun r S392 hp => ?_)
  obtain ⟨sc1, rfl, hB, hI, hcI⟩ := ex_sight hp hI hcI
  refine q_iload F dL_step_395 rfl ?_
  refine q_icmp_ne F 404 dL_step_397 rfl (fun c397 => ?_) (fun c397 => ?_)
  · exact absurd c397 (not_not_intro rfl)
  refine q_iconst F dL_step_400 hc_1 ?_
  refine q_goto F 405 dL_step_401 rfl ?_
  exact (q_reti F hr rfl dL_step_405 (Nat.le_of_ble_eq_true rfl) (Nat.le_of_ble_eq_true rfl) ⟨1, rfl, rfl, by first | exact hW | exact ⟨_, _, _, _, _, _, _, _, _, _, _, hB, hI, hcI⟩⟩)

set_option maxHeartbeats 4000000 in
set_option maxRecDepth 100000 in
theorem t_answers {p : Program} {l : Launch} {e : Env} {s : State} {m : MethodId} {args : Array Value} {below : List Frame} {meth : Method} {c : Code} {g : hG} {X : va_W} {S : hS} (F : hF p l s m args meth c cL_step 12 wsL_step RL g) (hr : meth.sig.returnType = some .boolean) (hst : l.stackTraces = false) {h cA bk ca sa : Nat} {f : Nat → Int32} {ad pa : Nat → Nat} {sc : Nat → Int32} {M : Nat → Nat → Int32} {n nc ns : Nat} (hB : lB S h cA f bk ca sa ad pa sc M n nc ns) (hI : lI sc M n) (hcI : cI f sc M n nc ns) {A B : Nat} (hA1 : A < 2 ^ 31) (hb2 : B < 2 ^ 31) : V p l e rm_L_step s m args below meth c 12 g X (MQ below (hQ g X (pGI (fun r S' => r = 1 ∧ lW S' h cA))) args s rm_L_step.cells rm_L_step.slots (hA g)) S 0 0 [(0, .ref h), (1, .ref cA), (3, .int (nI A)), (4, .int (nI B)), (5, .int (nI (nmN A))), (6, .int (nI (B % 2))), (7, .int (nI (B / 2 % kdN A))), (8, .int (nI n))] 406 [] := by
  have h0 : f 0 = sc 1 := hcI.1
  have h1 : f 1 = nI n := hcI.2.1
  have h2 : f 2 = nI nc := hcI.2.2.1
  have h3 : f 3 = nI ns := hcI.2.2.2.1
  have h4 : f 4 = sc 2 := hcI.2.2.2.2.1
  have h6 : f 6 = sc 29 + 1 := hcI.2.2.2.2.2.1
  have hn40 := lB_n hB
  have hnc20 := lB_nc hB
  have hns20 := lB_ns hB
  have hNP : okNP (nI (nmN A)) (nI (B % 2)) = true := okNP_v (nmN_le A) (by omega)
  have hk7 : (B / 2 % kdN A) ≤ 199 := by have h9 := kdN_in A; have := Nat.mod_lt (B / 2) (show 0 < kdN A by omega); omega
  have hK : okK (nI (B / 2 % kdN A)) = true := okK_v hk7
  refine q_aload_n F 0 dL_step_406 rfl rfl ?_
  refine q_aload_n F 1 dL_step_407 rfl rfl ?_
  refine q_iload F dL_step_408 rfl ?_
  refine q_iload F dL_step_410 rfl ?_
  refine q_iload F dL_step_412 rfl ?_
  refine q_cutB (tgt := 437) (st1 := [.int (nI (B / 2 % kdN A)), .int (nI (B % 2)), .int (nI (nmN A)), .ref cA, .ref h]) (k := 0) (n := 0) (.int (lCt (coN A nc))) (fun K414 => ?_) ?_
  · refine q_aload_n F 1 dL_step_414 rfl rfl ?_
    refine q_iconst F dL_step_415 hc_2 ?_
    refine q_cld F hB 2 rfl (by decide) dL_step_416 ?_
    refine q_top (v' := .int (nI nc)) ?_ (congrArg Value.int (h2))
    refine q_if_eq F 426 dL_step_417 rfl (fun c417 => ?_) (fun c417 => ?_)
    · refine q_iconst F dL_step_426 hc_m1 ?_
      refine q_goto F 437 dL_step_427 rfl ?_
      exact (q_top K414 (congrArg Value.int (by first | exact cq_0 hnc20 c417 | exact cq_1 hA1 c423 | exact cq_2 hA1 hnc20 c417 c423)))
    refine q_iload_n F 3 dL_step_420 rfl rfl ?_
    refine q_iconst F dL_step_421 hc_2 ?_
    refine q_irem F dL_step_422 (by decide) ?_
    refine q_if_ne F 430 dL_step_423 rfl (fun c423 => ?_) (fun c423 => ?_)
    · refine q_iload_n F 3 dL_step_430 rfl rfl ?_
      refine q_iconst F dL_step_431 hc_2 ?_
      refine q_idiv F dL_step_432 (by decide) ?_
      refine q_top (v' := .int (nI (A / 2))) ?_ (congrArg Value.int (pk_div (d := 2) (by omega) (by decide) (by decide)))
      refine q_aload_n F 1 dL_step_433 rfl rfl ?_
      refine q_iconst F dL_step_434 hc_2 ?_
      refine q_cld F hB 2 rfl (by decide) dL_step_435 ?_
      refine q_top (v' := .int (nI nc)) ?_ (congrArg Value.int (h2))
      refine q_irem F dL_step_436 c417 ?_
      exact (q_top K414 (congrArg Value.int (by first | exact cq_0 hnc20 c417 | exact cq_1 hA1 c423 | exact cq_2 hA1 hnc20 c417 c423)))
    refine q_iconst F dL_step_426 hc_m1 ?_
    refine q_goto F 437 dL_step_427 rfl ?_
    exact (q_top K414 (congrArg Value.int (by first | exact cq_0 hnc20 c417 | exact cq_1 hA1 c423 | exact cq_2 hA1 hnc20 c417 c423)))
  refine q_callS_gi F (c_L_answers hst hB hI hcI (nmN_le A) (show (B % 2) ≤ 3 by omega) hk7 coN_lt) gL_step_L_answers rfl hd_L_answers ⟨Nat.le_of_ble_eq_true rfl, Nat.le_of_ble_eq_true rfl⟩ rfl rfl (Nat.le_of_ble_eq_true rfl) dL_step_437 ⟨Nat.le_of_ble_eq_true rfl, Nat.le_of_ble_eq_true rfl⟩ (fun r S437 hp => ?_)
  obtain ⟨rfl, hW⟩ := hp
  exact (q_reti F hr rfl dL_step_440 (Nat.le_of_ble_eq_true rfl) (Nat.le_of_ble_eq_true rfl) ⟨1, rfl, rfl, by first | exact hW | exact ⟨_, _, _, _, _, _, _, _, _, _, _, hB, hI, hcI⟩⟩)

set_option maxHeartbeats 4000000 in
set_option maxRecDepth 100000 in
theorem t_turns {p : Program} {l : Launch} {e : Env} {s : State} {m : MethodId} {args : Array Value} {below : List Frame} {meth : Method} {c : Code} {g : hG} {X : va_W} {S : hS} (F : hF p l s m args meth c cL_step 12 wsL_step RL g) (hr : meth.sig.returnType = some .boolean) (hst : l.stackTraces = false) {h cA bk ca sa : Nat} {f : Nat → Int32} {ad pa : Nat → Nat} {sc : Nat → Int32} {M : Nat → Nat → Int32} {n nc ns : Nat} (hB : lB S h cA f bk ca sa ad pa sc M n nc ns) (hI : lI sc M n) (hcI : cI f sc M n nc ns) {A B : Nat} (hA1 : A < 2 ^ 31) (hb2 : B < 2 ^ 31) : V p l e rm_L_step s m args below meth c 12 g X (MQ below (hQ g X (pGI (fun r S' => r = 1 ∧ lW S' h cA))) args s rm_L_step.cells rm_L_step.slots (hA g)) S 0 0 [(0, .ref h), (1, .ref cA), (3, .int (nI A)), (4, .int (nI B)), (5, .int (nI (nmN A))), (6, .int (nI (B % 2))), (7, .int (nI (B / 2 % kdN A))), (8, .int (nI n))] 441 [] := by
  have h0 : f 0 = sc 1 := hcI.1
  have h1 : f 1 = nI n := hcI.2.1
  have h2 : f 2 = nI nc := hcI.2.2.1
  have h3 : f 3 = nI ns := hcI.2.2.2.1
  have h4 : f 4 = sc 2 := hcI.2.2.2.2.1
  have h6 : f 6 = sc 29 + 1 := hcI.2.2.2.2.2.1
  have hn40 := lB_n hB
  have hnc20 := lB_nc hB
  have hns20 := lB_ns hB
  have hNP : okNP (nI (nmN A)) (nI (B % 2)) = true := okNP_v (nmN_le A) (by omega)
  have hk7 : (B / 2 % kdN A) ≤ 199 := by have h9 := kdN_in A; have := Nat.mod_lt (B / 2) (show 0 < kdN A by omega); omega
  have hK : okK (nI (B / 2 % kdN A)) = true := okK_v hk7
  refine q_aload_n F 0 dL_step_441 rfl rfl ?_
  refine q_aload_n F 1 dL_step_442 rfl rfl ?_
  refine q_iload F dL_step_443 rfl ?_
  refine q_iload F dL_step_445 rfl ?_
  refine q_iload F dL_step_447 rfl ?_
  refine q_iload F dL_step_449 rfl ?_
  refine q_iconst F dL_step_451 hc_1 ?_
  refine q_iadd F dL_step_452 ?_
  refine q_top (v' := .int (nI ((B / 2 % kdN A) + 1))) ?_ (congrArg Value.int (nI_1 _))
  refine q_iload_n F 3 dL_step_453 rfl rfl ?_
  refine q_sipush (v := 199) F dL_step_454 (by decide) ?_
  refine q_irem F dL_step_457 (by decide) ?_
  refine q_top (v' := .int (nI (A % 199))) ?_ (congrArg Value.int (nI_mod (d := 199) (by omega) (by decide) (by decide)))
  refine q_iadd F dL_step_458 ?_
  refine q_top (v' := .int (nI ((B / 2 % kdN A) + 1 + A % 199))) ?_ (congrArg Value.int (nI_add _ _))
  refine q_sipush (v := 200) F dL_step_459 (by decide) ?_
  refine q_irem F dL_step_462 (by decide) ?_
  refine q_top (v' := .int (nI (((B / 2 % kdN A) + 1 + A % 199) % 200))) ?_ (congrArg Value.int (nI_mod (d := 200) (by omega) (by decide) (by decide)))
  refine q_iload F dL_step_463 rfl ?_
  refine q_bipush (v := 50) F dL_step_465 (by decide) ?_
  refine q_irem F dL_step_467 (by decide) ?_
  refine q_top (v' := .int (nI (B % 50))) ?_ (congrArg Value.int (nI_mod (d := 50) (by omega) (by decide) (by decide)))
  refine q_callS_gi F (c_L_turns hst hB hI hcI (nmN_le A) (show (B % 2) ≤ 3 by omega) hk7 (show ((B / 2 % kdN A) + 1 + A % 199) % 200 ≤ 199 by omega) (show B % 50 ≤ 1000 by omega)) gL_step_L_turns rfl hd_L_turns ⟨Nat.le_of_ble_eq_true rfl, Nat.le_of_ble_eq_true rfl⟩ rfl rfl (Nat.le_of_ble_eq_true rfl) dL_step_468 ⟨Nat.le_of_ble_eq_true rfl, Nat.le_of_ble_eq_true rfl⟩ (fun r S468 hp => ?_)
  obtain ⟨rfl, hW⟩ := hp
  exact (q_reti F hr rfl dL_step_471 (Nat.le_of_ble_eq_true rfl) (Nat.le_of_ble_eq_true rfl) ⟨1, rfl, rfl, by first | exact hW | exact ⟨_, _, _, _, _, _, _, _, _, _, _, hB, hI, hcI⟩⟩)

set_option maxHeartbeats 4000000 in
set_option maxRecDepth 100000 in
theorem t_pass {p : Program} {l : Launch} {e : Env} {s : State} {m : MethodId} {args : Array Value} {below : List Frame} {meth : Method} {c : Code} {g : hG} {X : va_W} {S : hS} (F : hF p l s m args meth c cL_step 12 wsL_step RL g) (hr : meth.sig.returnType = some .boolean) (hst : l.stackTraces = false) {h cA bk ca sa : Nat} {f : Nat → Int32} {ad pa : Nat → Nat} {sc : Nat → Int32} {M : Nat → Nat → Int32} {n nc ns : Nat} (hB : lB S h cA f bk ca sa ad pa sc M n nc ns) (hI : lI sc M n) (hcI : cI f sc M n nc ns) {A B : Nat} (hA1 : A < 2 ^ 31) (hb2 : B < 2 ^ 31) : V p l e rm_L_step s m args below meth c 12 g X (MQ below (hQ g X (pGI (fun r S' => r = 1 ∧ lW S' h cA))) args s rm_L_step.cells rm_L_step.slots (hA g)) S 0 0 [(0, .ref h), (1, .ref cA), (3, .int (nI A)), (4, .int (nI B)), (5, .int (nI (nmN A))), (6, .int (nI (B % 2))), (7, .int (nI (B / 2 % kdN A))), (8, .int (nI n))] 472 [] := by
  have h0 : f 0 = sc 1 := hcI.1
  have h1 : f 1 = nI n := hcI.2.1
  have h2 : f 2 = nI nc := hcI.2.2.1
  have h3 : f 3 = nI ns := hcI.2.2.2.1
  have h4 : f 4 = sc 2 := hcI.2.2.2.2.1
  have h6 : f 6 = sc 29 + 1 := hcI.2.2.2.2.2.1
  have hn40 := lB_n hB
  have hnc20 := lB_nc hB
  have hns20 := lB_ns hB
  have hNP : okNP (nI (nmN A)) (nI (B % 2)) = true := okNP_v (nmN_le A) (by omega)
  have hk7 : (B / 2 % kdN A) ≤ 199 := by have h9 := kdN_in A; have := Nat.mod_lt (B / 2) (show 0 < kdN A by omega); omega
  have hK : okK (nI (B / 2 % kdN A)) = true := okK_v hk7
  obtain ⟨d0, hd1, hd0⟩ := day_nat hI.2.1
  have h00 := h0.trans hd0
  refine q_iconst F dL_step_472 hc_1 ?_
  refine q_iload F dL_step_473 rfl ?_
  refine q_bipush (v := 60) F dL_step_475 (by decide) ?_
  refine q_irem F dL_step_477 (by decide) ?_
  refine q_top (v' := .int (nI (B % 60))) ?_ (congrArg Value.int (nI_mod (d := 60) (by omega) (by decide) (by decide)))
  refine q_iadd F dL_step_478 ?_
  refine q_top (v' := .int (nI (1 + B % 60))) ?_ (congrArg Value.int (nI_add 1 _))
  refine q_istore F dL_step_479 (by decide) rfl ?_
  refine q_aload_n F 1 dL_step_481 rfl rfl ?_
  refine q_iconst F dL_step_482 hc_0 ?_
  refine q_cld F hB 0 rfl (by decide) dL_step_483 ?_
  refine q_top (v' := .int (nI d0)) ?_ (congrArg Value.int (h00))
  refine q_iload F dL_step_484 rfl ?_
  refine q_iadd F dL_step_486 ?_
  refine q_top (v' := .int (nI (d0 + (1 + B % 60)))) ?_ (congrArg Value.int (nI_add _ _))
  refine q_sipush (v := 5000) F dL_step_487 (by decide) ?_
  refine q_icmp_le F 509 dL_step_490 rfl (fun c490 => ?_) (fun c490 => ?_)
  · refine q_aload_n F 1 dL_step_509 rfl rfl ?_
    refine q_iconst F dL_step_510 hc_0 ?_
    refine q_dup2 F dL_step_511 rfl rfl ?_
    refine q_cld F hB 0 rfl (by decide) dL_step_512 ?_
    refine q_top (v' := .int (nI d0)) ?_ (congrArg Value.int (h00))
    refine q_iload F dL_step_513 rfl ?_
    refine q_iadd F dL_step_515 ?_
    refine q_top (v' := .int (nI (d0 + (1 + B % 60)))) ?_ (congrArg Value.int (nI_add _ _))
    refine q_cst F hB 0 rfl (by decide) dL_step_516 (fun S516 hB => ?_)
    refine q_aload_n F 0 dL_step_517 rfl rfl ?_
    refine q_iload F dL_step_518 rfl ?_
    refine q_callV_gi F (n_pass hst hB (inR_nI (a := 1) (b := 1000) (Nat.le_add_right _ _) (by omega) (by decide)) (by rw [hd0, nI_add]; exact c490)) gL_step_X4_pass rfl hd_X4_pass ⟨Nat.le_of_ble_eq_true rfl, Nat.le_of_ble_eq_true rfl⟩ (lB_o hB) rfl rfl rfl (Nat.le_of_ble_eq_true rfl) dL_step_520 ⟨Nat.le_of_ble_eq_true rfl, Nat.le_of_ble_eq_true rfl⟩ (fun r S520 hp => ?_)
    obtain ⟨sc1, rfl, hB, hI, hcI⟩ := ex_pass hd0 c490 (by omega) hp hI hcI
    refine q_aload_n F 1 dL_step_523 rfl rfl ?_
    refine q_iconst F dL_step_524 hc_0 ?_
    refine q_cld F hB 0 rfl (by decide) dL_step_525 ?_
    refine q_top (v' := .int (nI (d0 + (1 + B % 60)))) ?_ (congrArg Value.int (va_up_self _ _ _))
    refine q_icmp_ne F 543 dL_step_526 rfl (fun c526 => ?_) (fun c526 => ?_)
    · exact absurd c526 (not_not_intro rfl)
    refine q_aload_n F 0 dL_step_529 rfl rfl ?_
    refine q_callV_i F (n_day hB) gL_step_X4_day rfl hd_X4_day ⟨Nat.le_of_ble_eq_true rfl, Nat.le_of_ble_eq_true rfl⟩ (lB_o hB) rfl rfl rfl (Nat.le_of_ble_eq_true rfl) dL_step_530 ⟨Nat.le_of_ble_eq_true rfl, Nat.le_of_ble_eq_true rfl⟩ ?_
    refine q_aload_n F 1 dL_step_533 rfl rfl ?_
    refine q_iconst F dL_step_534 hc_0 ?_
    refine q_cld F hB 0 rfl (by decide) dL_step_535 ?_
    refine q_top (v' := .int (sc1 1)) ?_ (congrArg Value.int (hcI.1))
    refine q_icmp_ne F 543 dL_step_536 rfl (fun c536 => ?_) (fun c536 => ?_)
    · exact absurd c536 (not_not_intro rfl)
    refine q_iconst F dL_step_539 hc_1 ?_
    refine q_goto F 544 dL_step_540 rfl ?_
    exact (q_reti F hr rfl dL_step_544 (Nat.le_of_ble_eq_true rfl) (Nat.le_of_ble_eq_true rfl) ⟨1, rfl, rfl, by first | exact hW | exact ⟨_, _, _, _, _, _, _, _, _, _, _, hB, hI, hcI⟩⟩)
  refine q_aload_n F 0 dL_step_493 rfl rfl ?_
  refine q_callV_i F (n_day hB) gL_step_X4_day rfl hd_X4_day ⟨Nat.le_of_ble_eq_true rfl, Nat.le_of_ble_eq_true rfl⟩ (lB_o hB) rfl rfl rfl (Nat.le_of_ble_eq_true rfl) dL_step_494 ⟨Nat.le_of_ble_eq_true rfl, Nat.le_of_ble_eq_true rfl⟩ ?_
  refine q_aload_n F 1 dL_step_497 rfl rfl ?_
  refine q_iconst F dL_step_498 hc_0 ?_
  refine q_cld F hB 0 rfl (by decide) dL_step_499 ?_
  refine q_top (v' := .int (sc 1)) ?_ (congrArg Value.int (h0))
  refine q_icmp_ne F 507 dL_step_500 rfl (fun c500 => ?_) (fun c500 => ?_)
  · exact absurd c500 (not_not_intro rfl)
  refine q_iconst F dL_step_503 hc_1 ?_
  refine q_goto F 508 dL_step_504 rfl ?_
  exact (q_reti F hr rfl dL_step_508 (Nat.le_of_ble_eq_true rfl) (Nat.le_of_ble_eq_true rfl) ⟨1, rfl, rfl, by first | exact hW | exact ⟨_, _, _, _, _, _, _, _, _, _, _, hB, hI, hcI⟩⟩)

set_option maxHeartbeats 4000000 in
set_option maxRecDepth 100000 in
theorem t_other {p : Program} {l : Launch} {e : Env} {s : State} {m : MethodId} {args : Array Value} {below : List Frame} {meth : Method} {c : Code} {g : hG} {X : va_W} {S : hS} (F : hF p l s m args meth c cL_step 12 wsL_step RL g) (hr : meth.sig.returnType = some .boolean) (hst : l.stackTraces = false) {h cA bk ca sa : Nat} {f : Nat → Int32} {ad pa : Nat → Nat} {sc : Nat → Int32} {M : Nat → Nat → Int32} {n nc ns : Nat} (hB : lB S h cA f bk ca sa ad pa sc M n nc ns) (hI : lI sc M n) (hcI : cI f sc M n nc ns) {A B : Nat} (hA1 : A < 2 ^ 31) (hb2 : B < 2 ^ 31) : V p l e rm_L_step s m args below meth c 12 g X (MQ below (hQ g X (pGI (fun r S' => r = 1 ∧ lW S' h cA))) args s rm_L_step.cells rm_L_step.slots (hA g)) S 0 0 [(0, .ref h), (1, .ref cA), (3, .int (nI A)), (4, .int (nI B)), (5, .int (nI (nmN A))), (6, .int (nI (B % 2))), (7, .int (nI (B / 2 % kdN A))), (8, .int (nI n))] 545 [] := by
  have h0 : f 0 = sc 1 := hcI.1
  have h1 : f 1 = nI n := hcI.2.1
  have h2 : f 2 = nI nc := hcI.2.2.1
  have h3 : f 3 = nI ns := hcI.2.2.2.1
  have h4 : f 4 = sc 2 := hcI.2.2.2.2.1
  have h6 : f 6 = sc 29 + 1 := hcI.2.2.2.2.2.1
  have hn40 := lB_n hB
  have hnc20 := lB_nc hB
  have hns20 := lB_ns hB
  have hNP : okNP (nI (nmN A)) (nI (B % 2)) = true := okNP_v (nmN_le A) (by omega)
  have hk7 : (B / 2 % kdN A) ≤ 199 := by have h9 := kdN_in A; have := Nat.mod_lt (B / 2) (show 0 < kdN A by omega); omega
  have hK : okK (nI (B / 2 % kdN A)) = true := okK_v hk7
  refine q_iload F dL_step_545 rfl ?_
  refine q_iconst F dL_step_547 hc_3 ?_
  refine q_irem F dL_step_548 (by decide) ?_
  refine q_if_le F 560 dL_step_549 rfl (fun c549 => ?_) (fun c549 => ?_)
  · refine q_aload_n F 0 dL_step_560 rfl rfl ?_
    refine q_aload_n F 1 dL_step_561 rfl rfl ?_
    refine q_iconst F dL_step_562 hc_1 ?_
    refine q_iload_n F 3 dL_step_563 rfl rfl ?_
    refine q_sipush (v := 200) F dL_step_564 (by decide) ?_
    refine q_irem F dL_step_567 (by decide) ?_
    refine q_top (v' := .int (nI (A % 200))) ?_ (congrArg Value.int (nI_mod (d := 200) (by omega) (by decide) (by decide)))
    refine q_iadd F dL_step_568 ?_
    refine q_top (v' := .int (nI (1 + A % 200))) ?_ (congrArg Value.int (nI_add 1 _))
    refine q_callS_gi F (c_L_cleans hst hB hI hcI (show 1 ≤ 1 + A % 200 by omega) (show 1 + A % 200 ≤ 200 by omega)) gL_step_L_cleans rfl hd_L_cleans ⟨Nat.le_of_ble_eq_true rfl, Nat.le_of_ble_eq_true rfl⟩ rfl rfl (Nat.le_of_ble_eq_true rfl) dL_step_569 ⟨Nat.le_of_ble_eq_true rfl, Nat.le_of_ble_eq_true rfl⟩ (fun r S569 hp => ?_)
    obtain ⟨rfl, hW⟩ := hp
    exact (q_reti F hr rfl dL_step_572 (Nat.le_of_ble_eq_true rfl) (Nat.le_of_ble_eq_true rfl) ⟨1, rfl, rfl, by first | exact hW | exact ⟨_, _, _, _, _, _, _, _, _, _, _, hB, hI, hcI⟩⟩)
  refine q_aload_n F 0 dL_step_552 rfl rfl ?_
  refine q_aload_n F 1 dL_step_553 rfl rfl ?_
  refine q_callS_gi F (c_L_confirms hst hB hI hcI) gL_step_L_confirms rfl hd_L_confirms ⟨Nat.le_of_ble_eq_true rfl, Nat.le_of_ble_eq_true rfl⟩ rfl rfl (Nat.le_of_ble_eq_true rfl) dL_step_554 ⟨Nat.le_of_ble_eq_true rfl, Nat.le_of_ble_eq_true rfl⟩ (fun r S554 hp => ?_)
  obtain ⟨rfl, hW⟩ := hp
  refine q_goto F 572 dL_step_557 rfl ?_
  exact (q_reti F hr rfl dL_step_572 (Nat.le_of_ble_eq_true rfl) (Nat.le_of_ble_eq_true rfl) ⟨1, rfl, rfl, by first | exact hW | exact ⟨_, _, _, _, _, _, _, _, _, _, _, hB, hI, hcI⟩⟩)

