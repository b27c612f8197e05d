set_option maxHeartbeats 4000000 in
set_option maxRecDepth 100000 in
theorem c_L_certificates {l : Launch} {g : hG} {X : va_W} {S : hS} (hst : l.stackTraces = false) {h cA bk ca sa : Nat} {f : Nat → Int32} {ad pa : Nat → Nat} {sc : Nat → Int32} {M : Nat → Nat → Int32} {n nc ns : Nat} (hB : lB S h cA f bk ca sa ad pa sc M n nc ns) (hI : lI sc M n) (hcI : cI f sc M n nc ns) {A B : Nat} (hA1 : A < 2 ^ 31) (hb2 : B < 2 ^ 31) {N1 K1 : Nat} (hN1 : N1 ≤ 9999) (hK1 : K1 ≤ 199) : hMet l yL_certificates wsL_certificates rm_L_certificates g X S [.ref h, .ref cA, .int (nI A), .int (nI B), .int (nI N1), .int (nI K1)] (pGI (fun r S' => r = 1 ∧ lW S' h cA)) := by
  refine h_start (maxL := 8) (ret := (some .boolean)) (by decide) rfl (Nat.le_of_ble_eq_true rfl) ?_
  intro p e s m args below meth c F hr hinit
  have h0 : f 0 = sc 1 := hcI.1
  have h1 : f 1 = nI n := hcI.2.1
  have h2 : f 2 = nI nc := hcI.2.2.1
  have h3 : f 3 = nI ns := hcI.2.2.2.1
  have h4 : f 4 = sc 2 := hcI.2.2.2.2.1
  have h6 : f 6 = sc 29 + 1 := hcI.2.2.2.2.2.1
  have hn40 := lB_n hB
  have hnc20 := lB_nc hB
  have hns20 := lB_ns hB
  have hK : okK (nI K1) = true := okK_v hK1
  have hau : okK (nI (B / 4 % 6)) = true := okK_v (by omega)
  refine q_iload_n F 3 dL_certificates_0 rfl rfl ?_
  refine q_iconst F dL_certificates_1 hc_4 ?_
  refine q_irem F dL_certificates_2 (by decide) ?_
  refine q_if_ne F 75 dL_certificates_3 rfl (fun c3 => ?_) (fun c3 => ?_)
  · refine q_aload_n F 1 dL_certificates_75 rfl rfl ?_
    refine q_iconst F dL_certificates_76 hc_2 ?_
    refine q_cld F hB 2 rfl (by decide) dL_certificates_77 ?_
    refine q_top (v' := .int (nI nc)) ?_ (congrArg Value.int (h2))
    refine q_bipush (v := 20) F dL_certificates_78 (by decide) ?_
    refine q_icmp_ne F 85 dL_certificates_80 rfl (fun c80 => ?_) (fun c80 => ?_)
    · have hnc : nc < 20 := lt_ne hnc20 (by decide) c80
      refine q_aload_n F 1 dL_certificates_85 rfl rfl ?_
      refine q_bipush (v := 8) F dL_certificates_86 (by decide) ?_
      refine q_aload_n F 1 dL_certificates_88 rfl rfl ?_
      refine q_iconst F dL_certificates_89 hc_2 ?_
      refine q_cld F hB 2 rfl (by decide) dL_certificates_90 ?_
      refine q_top (v' := .int (nI nc)) ?_ (congrArg Value.int (h2))
      refine q_iadd F dL_certificates_91 ?_
      refine q_top (v' := .int (nI (8 + nc))) ?_ (congrArg Value.int (nI_add 8 nc))
      refine q_iload_n F 3 dL_certificates_92 rfl rfl ?_
      refine q_iconst F dL_certificates_93 hc_4 ?_
      refine q_idiv F dL_certificates_94 (by decide) ?_
      refine q_top (v' := .int (nI (B / 4))) ?_ (congrArg Value.int (pk_div (d := 4) (by omega) (by decide) (by decide)))
      refine q_bipush (v := 6) F dL_certificates_95 (by decide) ?_
      refine q_irem F dL_certificates_97 (by decide) ?_
      refine q_top (v' := .int (nI (B / 4 % 6))) ?_ (congrArg Value.int (nI_mod (d := 6) (by omega) (by decide) (by decide)))
      refine q_cst F hB (8 + nc) rfl (by omega) dL_certificates_98 (fun S98 hB => ?_)
      have h2 : (va_up f (8 + nc) (nI (B / 4 % 6))) 2 = nI nc := by rw [va_up_ne _ _ (by omega)]; exact h2
      refine q_aload_n F 1 dL_certificates_99 rfl rfl ?_
      refine q_bipush (v := 28) F dL_certificates_100 (by decide) ?_
      refine q_aload_n F 1 dL_certificates_102 rfl rfl ?_
      refine q_iconst F dL_certificates_103 hc_2 ?_
      refine q_cld F hB 2 rfl (by decide) dL_certificates_104 ?_
      refine q_top (v' := .int (nI nc)) ?_ (congrArg Value.int (h2))
      refine q_iadd F dL_certificates_105 ?_
      refine q_top (v' := .int (nI (28 + nc))) ?_ (congrArg Value.int (nI_add 28 nc))
      refine q_iload F dL_certificates_106 rfl ?_
      refine q_cst F hB (28 + nc) rfl (by omega) dL_certificates_108 (fun S108 hB => ?_)
      have h2 : (va_up (va_up f (8 + nc) (nI (B / 4 % 6))) (28 + nc) (nI K1)) 2 = nI nc := by rw [va_up_ne _ _ (by omega)]; exact h2
      refine q_aload_n F 1 dL_certificates_109 rfl rfl ?_
      refine q_iconst F dL_certificates_110 hc_2 ?_
      refine q_dup2 F dL_certificates_111 rfl rfl ?_
      refine q_cld F hB 2 rfl (by decide) dL_certificates_112 ?_
      refine q_top (v' := .int (nI nc)) ?_ (congrArg Value.int (h2))
      refine q_iconst F dL_certificates_113 hc_1 ?_
      refine q_iadd F dL_certificates_114 ?_
      refine q_top (v' := .int (nI (nc + 1))) ?_ (congrArg Value.int (nI_1 nc))
      refine q_cst F hB 2 rfl (by decide) dL_certificates_115 (fun S115 hB => ?_)
      refine q_iload_n F 2 dL_certificates_116 rfl rfl ?_
      refine q_bipush (v := 100) F dL_certificates_117 (by decide) ?_
      refine q_irem F dL_certificates_119 (by decide) ?_
      refine q_top (v' := .int (nI (A % 100))) ?_ (congrArg Value.int (nI_mod (d := 100) (by omega) (by decide) (by decide)))
      refine q_istore F dL_certificates_120 (by decide) rfl ?_
      refine q_aload_n F 0 dL_certificates_122 rfl rfl ?_
      refine q_iload_n F 3 dL_certificates_123 rfl rfl ?_
      refine q_iconst F dL_certificates_124 hc_4 ?_
      refine q_idiv F dL_certificates_125 (by decide) ?_
      refine q_top (v' := .int (nI (B / 4))) ?_ (congrArg Value.int (pk_div (d := 4) (by omega) (by decide) (by decide)))
      refine q_bipush (v := 6) F dL_certificates_126 (by decide) ?_
      refine q_irem F dL_certificates_128 (by decide) ?_
      refine q_top (v' := .int (nI (B / 4 % 6))) ?_ (congrArg Value.int (nI_mod (d := 6) (by omega) (by decide) (by decide)))
      refine q_iload F dL_certificates_129 rfl ?_
      refine q_iload F dL_certificates_131 rfl ?_
      refine q_iload_n F 3 dL_certificates_133 rfl rfl ?_
      refine q_bipush (v := 24) F dL_certificates_134 (by decide) ?_
      refine q_idiv F dL_certificates_136 (by decide) ?_
      refine q_top (v' := .int (nI (B / 24))) ?_ (congrArg Value.int (pk_div (d := 24) (by omega) (by decide) (by decide)))
      refine q_bipush (v := 16) F dL_certificates_137 (by decide) ?_
      refine q_irem F dL_certificates_139 (by decide) ?_
      refine q_top (v' := .int (nI (B / 24 % 16))) ?_ (congrArg Value.int (nI_mod (d := 16) (by omega) (by decide) (by decide)))
      refine q_iload_n F 2 dL_certificates_140 rfl rfl ?_
      refine q_sipush (v := 1000) F dL_certificates_141 (by decide) ?_
      refine q_irem F dL_certificates_144 (by decide) ?_
      refine q_top (v' := .int (nI (A % 1000))) ?_ (congrArg Value.int (nI_mod (d := 1000) (by omega) (by decide) (by decide)))
      refine q_iload F dL_certificates_145 rfl ?_
      refine q_iload F dL_certificates_147 rfl ?_
      refine q_iload_n F 3 dL_certificates_149 rfl rfl ?_
      refine q_sipush (v := 2000) F dL_certificates_150 (by decide) ?_
      refine q_irem F dL_certificates_153 (by decide) ?_
      refine q_top (v' := .int (nI (B % 2000))) ?_ (congrArg Value.int (nI_mod (d := 2000) (by omega) (by decide) (by decide)))
      refine q_iadd F dL_certificates_154 ?_
      refine q_top (v' := .int (nI (A % 100 + B % 2000))) ?_ (congrArg Value.int (nI_add _ _))
      refine q_callV_gi F (n_certify hst hB (ba (ba (ba (ba (ba (ba hau hK) (okN_v hN1)) (inR_nI (a := 0) (b := 15) (Nat.zero_le _) (by omega) (by decide))) (inR_nI (a := 0) (b := 999) (Nat.zero_le _) (by omega) (by decide))) (inR_nI (a := 0) (b := 5000) (Nat.zero_le _) (by omega) (by decide))) (inR_nI (b := 5000) (Nat.le_add_right _ _) (by omega) (by decide))) hnc) gL_certificates_X4_certify rfl hd_X4_certify ⟨Nat.le_of_ble_eq_true rfl, Nat.le_of_ble_eq_true rfl⟩ (lB_o hB) rfl rfl rfl (Nat.le_of_ble_eq_true rfl) dL_certificates_155 ⟨Nat.le_of_ble_eq_true rfl, Nat.le_of_ble_eq_true rfl⟩ (fun r S155 hp => ?_)
      obtain ⟨rfl, hB⟩ := hp
      have hI := lI_cert (nc := nc) (au := nI (B / 4 % 6)) (key := nI K1) (name := nI N1) (places := nI (B / 24 % 16)) (serial := nI (A % 1000)) (first := nI (A % 100)) (last := nI (A % 100 + B % 2000)) hI
      have hcI := cI_cert (v := nI (B / 4 % 6)) (au := nI (B / 4 % 6)) (key := nI K1) (name := nI N1) (places := nI (B / 24 % 16)) (serial := nI (A % 1000)) (first := nI (A % 100)) (last := nI (A % 100 + B % 2000)) hcI hnc
      refine q_aload_n F 1 dL_certificates_158 rfl rfl ?_
      refine q_iconst F dL_certificates_159 hc_2 ?_
      refine q_cld F hB 2 rfl (by decide) dL_certificates_160 ?_
      refine q_top (v' := .int (nI (nc + 1))) ?_ (congrArg Value.int (va_up_self _ _ _))
      refine q_iconst F dL_certificates_161 hc_1 ?_
      refine q_isub F dL_certificates_162 ?_
      refine q_top (v' := .int (nI nc)) ?_ (congrArg Value.int (nI_pred nc))
      refine q_icmp_ne F 170 dL_certificates_163 rfl (fun c163 => ?_) (fun c163 => ?_)
      · exact absurd c163 (not_not_intro rfl)
      refine q_iconst F dL_certificates_166 hc_1 ?_
      refine q_goto F 171 dL_certificates_167 rfl ?_
      exact (q_reti F hr rfl dL_certificates_171 (Nat.le_of_ble_eq_true rfl) (Nat.le_of_ble_eq_true rfl) ⟨1, rfl, rfl, _, _, _, _, _, _, _, _, _, _, _, hB, hI, hcI⟩)
    refine q_iconst F dL_certificates_83 hc_1 ?_
    exact (q_reti F hr rfl dL_certificates_84 (Nat.le_of_ble_eq_true rfl) (Nat.le_of_ble_eq_true rfl) ⟨1, rfl, rfl, _, _, _, _, _, _, _, _, _, _, _, hB, hI, hcI⟩)
  refine q_aload_n F 1 dL_certificates_6 rfl rfl ?_
  refine q_iconst F dL_certificates_7 hc_3 ?_
  refine q_cld F hB 3 rfl (by decide) dL_certificates_8 ?_
  refine q_top (v' := .int (nI ns)) ?_ (congrArg Value.int (h3))
  refine q_bipush (v := 20) F dL_certificates_9 (by decide) ?_
  refine q_icmp_ge F 75 dL_certificates_11 rfl (fun c11 => ?_) (fun c11 => ?_)
  · refine q_aload_n F 1 dL_certificates_75 rfl rfl ?_
    refine q_iconst F dL_certificates_76 hc_2 ?_
    refine q_cld F hB 2 rfl (by decide) dL_certificates_77 ?_
    refine q_top (v' := .int (nI nc)) ?_ (congrArg Value.int (h2))
    refine q_bipush (v := 20) F dL_certificates_78 (by decide) ?_
    refine q_icmp_ne F 85 dL_certificates_80 rfl (fun c80 => ?_) (fun c80 => ?_)
    · have hnc : nc < 20 := lt_ne hnc20 (by decide) c80
      refine q_aload_n F 1 dL_certificates_85 rfl rfl ?_
      refine q_bipush (v := 8) F dL_certificates_86 (by decide) ?_
      refine q_aload_n F 1 dL_certificates_88 rfl rfl ?_
      refine q_iconst F dL_certificates_89 hc_2 ?_
      refine q_cld F hB 2 rfl (by decide) dL_certificates_90 ?_
      refine q_top (v' := .int (nI nc)) ?_ (congrArg Value.int (h2))
      refine q_iadd F dL_certificates_91 ?_
      refine q_top (v' := .int (nI (8 + nc))) ?_ (congrArg Value.int (nI_add 8 nc))
      refine q_iload_n F 3 dL_certificates_92 rfl rfl ?_
      refine q_iconst F dL_certificates_93 hc_4 ?_
      refine q_idiv F dL_certificates_94 (by decide) ?_
      refine q_top (v' := .int (nI (B / 4))) ?_ (congrArg Value.int (pk_div (d := 4) (by omega) (by decide) (by decide)))
      refine q_bipush (v := 6) F dL_certificates_95 (by decide) ?_
      refine q_irem F dL_certificates_97 (by decide) ?_
      refine q_top (v' := .int (nI (B / 4 % 6))) ?_ (congrArg Value.int (nI_mod (d := 6) (by omega) (by decide) (by decide)))
      refine q_cst F hB (8 + nc) rfl (by omega) dL_certificates_98 (fun S98 hB => ?_)
      have h2 : (va_up f (8 + nc) (nI (B / 4 % 6))) 2 = nI nc := by rw [va_up_ne _ _ (by omega)]; exact h2
      refine q_aload_n F 1 dL_certificates_99 rfl rfl ?_
      refine q_bipush (v := 28) F dL_certificates_100 (by decide) ?_
      refine q_aload_n F 1 dL_certificates_102 rfl rfl ?_
      refine q_iconst F dL_certificates_103 hc_2 ?_
      refine q_cld F hB 2 rfl (by decide) dL_certificates_104 ?_
      refine q_top (v' := .int (nI nc)) ?_ (congrArg Value.int (h2))
      refine q_iadd F dL_certificates_105 ?_
      refine q_top (v' := .int (nI (28 + nc))) ?_ (congrArg Value.int (nI_add 28 nc))
      refine q_iload F dL_certificates_106 rfl ?_
      refine q_cst F hB (28 + nc) rfl (by omega) dL_certificates_108 (fun S108 hB => ?_)
      have h2 : (va_up (va_up f (8 + nc) (nI (B / 4 % 6))) (28 + nc) (nI K1)) 2 = nI nc := by rw [va_up_ne _ _ (by omega)]; exact h2
      refine q_aload_n F 1 dL_certificates_109 rfl rfl ?_
      refine q_iconst F dL_certificates_110 hc_2 ?_
      refine q_dup2 F dL_certificates_111 rfl rfl ?_
      refine q_cld F hB 2 rfl (by decide) dL_certificates_112 ?_
      refine q_top (v' := .int (nI nc)) ?_ (congrArg Value.int (h2))
      refine q_iconst F dL_certificates_113 hc_1 ?_
      refine q_iadd F dL_certificates_114 ?_
      refine q_top (v' := .int (nI (nc + 1))) ?_ (congrArg Value.int (nI_1 nc))
      refine q_cst F hB 2 rfl (by decide) dL_certificates_115 (fun S115 hB => ?_)
      refine q_iload_n F 2 dL_certificates_116 rfl rfl ?_
      refine q_bipush (v := 100) F dL_certificates_117 (by decide) ?_
      refine q_irem F dL_certificates_119 (by decide) ?_
      refine q_top (v' := .int (nI (A % 100))) ?_ (congrArg Value.int (nI_mod (d := 100) (by omega) (by decide) (by decide)))
      refine q_istore F dL_certificates_120 (by decide) rfl ?_
      refine q_aload_n F 0 dL_certificates_122 rfl rfl ?_
      refine q_iload_n F 3 dL_certificates_123 rfl rfl ?_
      refine q_iconst F dL_certificates_124 hc_4 ?_
      refine q_idiv F dL_certificates_125 (by decide) ?_
      refine q_top (v' := .int (nI (B / 4))) ?_ (congrArg Value.int (pk_div (d := 4) (by omega) (by decide) (by decide)))
      refine q_bipush (v := 6) F dL_certificates_126 (by decide) ?_
      refine q_irem F dL_certificates_128 (by decide) ?_
      refine q_top (v' := .int (nI (B / 4 % 6))) ?_ (congrArg Value.int (nI_mod (d := 6) (by omega) (by decide) (by decide)))
      refine q_iload F dL_certificates_129 rfl ?_
      refine q_iload F dL_certificates_131 rfl ?_
      refine q_iload_n F 3 dL_certificates_133 rfl rfl ?_
      refine q_bipush (v := 24) F dL_certificates_134 (by decide) ?_
      refine q_idiv F dL_certificates_136 (by decide) ?_
      refine q_top (v' := .int (nI (B / 24))) ?_ (congrArg Value.int (pk_div (d := 24) (by omega) (by decide) (by decide)))
      refine q_bipush (v := 16) F dL_certificates_137 (by decide) ?_
      refine q_irem F dL_certificates_139 (by decide) ?_
      refine q_top (v' := .int (nI (B / 24 % 16))) ?_ (congrArg Value.int (nI_mod (d := 16) (by omega) (by decide) (by decide)))
      refine q_iload_n F 2 dL_certificates_140 rfl rfl ?_
      refine q_sipush (v := 1000) F dL_certificates_141 (by decide) ?_
      refine q_irem F dL_certificates_144 (by decide) ?_
      refine q_top (v' := .int (nI (A % 1000))) ?_ (congrArg Value.int (nI_mod (d := 1000) (by omega) (by decide) (by decide)))
      refine q_iload F dL_certificates_145 rfl ?_
      refine q_iload F dL_certificates_147 rfl ?_
      refine q_iload_n F 3 dL_certificates_149 rfl rfl ?_
      refine q_sipush (v := 2000) F dL_certificates_150 (by decide) ?_
      refine q_irem F dL_certificates_153 (by decide) ?_
      refine q_top (v' := .int (nI (B % 2000))) ?_ (congrArg Value.int (nI_mod (d := 2000) (by omega) (by decide) (by decide)))
      refine q_iadd F dL_certificates_154 ?_
      refine q_top (v' := .int (nI (A % 100 + B % 2000))) ?_ (congrArg Value.int (nI_add _ _))
      refine q_callV_gi F (n_certify hst hB (ba (ba (ba (ba (ba (ba hau hK) (okN_v hN1)) (inR_nI (a := 0) (b := 15) (Nat.zero_le _) (by omega) (by decide))) (inR_nI (a := 0) (b := 999) (Nat.zero_le _) (by omega) (by decide))) (inR_nI (a := 0) (b := 5000) (Nat.zero_le _) (by omega) (by decide))) (inR_nI (b := 5000) (Nat.le_add_right _ _) (by omega) (by decide))) hnc) gL_certificates_X4_certify rfl hd_X4_certify ⟨Nat.le_of_ble_eq_true rfl, Nat.le_of_ble_eq_true rfl⟩ (lB_o hB) rfl rfl rfl (Nat.le_of_ble_eq_true rfl) dL_certificates_155 ⟨Nat.le_of_ble_eq_true rfl, Nat.le_of_ble_eq_true rfl⟩ (fun r S155 hp => ?_)
      obtain ⟨rfl, hB⟩ := hp
      have hI := lI_cert (nc := nc) (au := nI (B / 4 % 6)) (key := nI K1) (name := nI N1) (places := nI (B / 24 % 16)) (serial := nI (A % 1000)) (first := nI (A % 100)) (last := nI (A % 100 + B % 2000)) hI
      have hcI := cI_cert (v := nI (B / 4 % 6)) (au := nI (B / 4 % 6)) (key := nI K1) (name := nI N1) (places := nI (B / 24 % 16)) (serial := nI (A % 1000)) (first := nI (A % 100)) (last := nI (A % 100 + B % 2000)) hcI hnc
      refine q_aload_n F 1 dL_certificates_158 rfl rfl ?_
      refine q_iconst F dL_certificates_159 hc_2 ?_
      refine q_cld F hB 2 rfl (by decide) dL_certificates_160 ?_
      refine q_top (v' := .int (nI (nc + 1))) ?_ (congrArg Value.int (va_up_self _ _ _))
      refine q_iconst F dL_certificates_161 hc_1 ?_
      refine q_isub F dL_certificates_162 ?_
      refine q_top (v' := .int (nI nc)) ?_ (congrArg Value.int (nI_pred nc))
      refine q_icmp_ne F 170 dL_certificates_163 rfl (fun c163 => ?_) (fun c163 => ?_)
      · exact absurd c163 (not_not_intro rfl)
      refine q_iconst F dL_certificates_166 hc_1 ?_
      refine q_goto F 171 dL_certificates_167 rfl ?_
      exact (q_reti F hr rfl dL_certificates_171 (Nat.le_of_ble_eq_true rfl) (Nat.le_of_ble_eq_true rfl) ⟨1, rfl, rfl, _, _, _, _, _, _, _, _, _, _, _, hB, hI, hcI⟩)
    refine q_iconst F dL_certificates_83 hc_1 ?_
    exact (q_reti F hr rfl dL_certificates_84 (Nat.le_of_ble_eq_true rfl) (Nat.le_of_ble_eq_true rfl) ⟨1, rfl, rfl, _, _, _, _, _, _, _, _, _, _, _, hB, hI, hcI⟩)
  have hns : ns < 20 := lt_nle (by omega) (by decide) c11
  refine q_aload_n F 1 dL_certificates_14 rfl rfl ?_
  refine q_iconst F dL_certificates_15 hc_3 ?_
  refine q_dup2 F dL_certificates_16 rfl rfl ?_
  refine q_cld F hB 3 rfl (by decide) dL_certificates_17 ?_
  refine q_top (v' := .int (nI ns)) ?_ (congrArg Value.int (h3))
  refine q_iconst F dL_certificates_18 hc_1 ?_
  refine q_iadd F dL_certificates_19 ?_
  refine q_top (v' := .int (nI (ns + 1))) ?_ (congrArg Value.int (nI_1 ns))
  refine q_cst F hB 3 rfl (by decide) dL_certificates_20 (fun S20 hB => ?_)
  refine q_iload_n F 2 dL_certificates_21 rfl rfl ?_
  refine q_sipush (v := 1000) F dL_certificates_22 (by decide) ?_
  refine q_irem F dL_certificates_25 (by decide) ?_
  refine q_top (v' := .int (nI (A % 1000))) ?_ (congrArg Value.int (nI_mod (d := 1000) (by omega) (by decide) (by decide)))
  refine q_istore F dL_certificates_26 (by decide) rfl ?_
  refine q_aload_n F 0 dL_certificates_28 rfl rfl ?_
  refine q_iload_n F 3 dL_certificates_29 rfl rfl ?_
  refine q_iconst F dL_certificates_30 hc_4 ?_
  refine q_idiv F dL_certificates_31 (by decide) ?_
  refine q_top (v' := .int (nI (B / 4))) ?_ (congrArg Value.int (pk_div (d := 4) (by omega) (by decide) (by decide)))
  refine q_bipush (v := 6) F dL_certificates_32 (by decide) ?_
  refine q_irem F dL_certificates_34 (by decide) ?_
  refine q_top (v' := .int (nI (B / 4 % 6))) ?_ (congrArg Value.int (nI_mod (d := 6) (by omega) (by decide) (by decide)))
  refine q_iload F dL_certificates_35 rfl ?_
  refine q_iload F dL_certificates_37 rfl ?_
  refine q_iload_n F 3 dL_certificates_39 rfl rfl ?_
  refine q_bipush (v := 24) F dL_certificates_40 (by decide) ?_
  refine q_idiv F dL_certificates_42 (by decide) ?_
  refine q_top (v' := .int (nI (B / 24))) ?_ (congrArg Value.int (pk_div (d := 24) (by omega) (by decide) (by decide)))
  refine q_sipush (v := 1000) F dL_certificates_43 (by decide) ?_
  refine q_iload F dL_certificates_46 rfl ?_
  refine q_isub F dL_certificates_48 ?_
  refine q_top (v' := .int (nI (1000 - A % 1000))) ?_ (congrArg Value.int (pk_sub (a := 1000) (by omega)))
  refine q_irem F dL_certificates_49 (nI_ne0 (by omega) (by omega)) ?_
  refine q_top (v' := .int (nI (B / 24 % (1000 - A % 1000)))) ?_ (congrArg Value.int (nI_mod (by omega) (by omega) (by omega)))
  refine q_iadd F dL_certificates_50 ?_
  refine q_top (v' := .int (nI (A % 1000 + B / 24 % (1000 - A % 1000)))) ?_ (congrArg Value.int (nI_add _ _))
  refine q_callV_gi F (n_revokeSpan hst hB (ba (ba hau (inR_nI (a := 0) (b := 999) (Nat.zero_le _) (by omega) (by decide))) (inR_nI (b := 999) (Nat.le_add_right _ _) (by have := Nat.mod_lt (B / 24) (show 0 < 1000 - A % 1000 by omega); omega) (by decide))) hns) gL_certificates_X4_revokeSpan rfl hd_X4_revokeSpan ⟨Nat.le_of_ble_eq_true rfl, Nat.le_of_ble_eq_true rfl⟩ (lB_o hB) rfl rfl rfl (Nat.le_of_ble_eq_true rfl) dL_certificates_51 ⟨Nat.le_of_ble_eq_true rfl, Nat.le_of_ble_eq_true rfl⟩ (fun r S51 hp => ?_)
  obtain ⟨rfl, hB⟩ := hp
  have hI := lI_span (ns := ns) (au := nI (B / 4 % 6)) (fr := nI (A % 1000)) (to := nI (A % 1000 + B / 24 % (1000 - A % 1000))) hI
  have hcI := cI_span (au := nI (B / 4 % 6)) (fr := nI (A % 1000)) (to := nI (A % 1000 + B / 24 % (1000 - A % 1000))) hcI
  refine q_istore F dL_certificates_54 (by decide) rfl ?_
  refine q_iload F dL_certificates_56 rfl ?_
  refine q_if_lt F 73 dL_certificates_58 rfl (fun c58 => ?_) (fun c58 => ?_)
  · exact absurd c58 (cntN_0 hnc20)
  refine q_iload F dL_certificates_61 rfl ?_
  refine q_aload_n F 1 dL_certificates_63 rfl rfl ?_
  refine q_iconst F dL_certificates_64 hc_2 ?_
  refine q_cld F hB 2 rfl (by decide) dL_certificates_65 ?_
  refine q_top (v' := .int (nI nc)) ?_ (congrArg Value.int (by rw [va_up_ne _ _ (by decide)]; exact h2))
  refine q_icmp_gt F 73 dL_certificates_66 rfl (fun c66 => ?_) (fun c66 => ?_)
  · exact absurd c66 (cntN_n hnc20)
  refine q_iconst F dL_certificates_69 hc_1 ?_
  refine q_goto F 74 dL_certificates_70 rfl ?_
  exact (q_reti F hr rfl dL_certificates_74 (Nat.le_of_ble_eq_true rfl) (Nat.le_of_ble_eq_true rfl) ⟨1, rfl, rfl, _, _, _, _, _, _, _, _, _, _, _, hB, hI, hcI⟩)

set_option maxHeartbeats 4000000 in
set_option maxRecDepth 100000 in
theorem c_L_confirms {l : Launch} {g : hG} {X : va_W} {S : hS} (hst : l.stackTraces = false) {h cA bk ca sa : Nat} {f : Nat → Int32} {ad pa : Nat → Nat} {sc : Nat → Int32} {M : Nat → Nat → Int32} {n nc ns : Nat} (hB : lB S h cA f bk ca sa ad pa sc M n nc ns) (hI : lI sc M n) (hcI : cI f sc M n nc ns) : hMet l yL_confirms wsL_confirms rm_L_confirms g X S [.ref h, .ref cA] (pGI (fun r S' => r = 1 ∧ lW S' h cA)) := by
  refine h_start (maxL := 3) (ret := (some .boolean)) (by decide) rfl (Nat.le_of_ble_eq_true rfl) ?_
  intro p e s m args below meth c F hr hinit
  have h0 : f 0 = sc 1 := hcI.1
  have h1 : f 1 = nI n := hcI.2.1
  have h2 : f 2 = nI nc := hcI.2.2.1
  have h3 : f 3 = nI ns := hcI.2.2.2.1
  have h4 : f 4 = sc 2 := hcI.2.2.2.2.1
  have h6 : f 6 = sc 29 + 1 := hcI.2.2.2.2.2.1
  have hn40 := lB_n hB
  have hnc20 := lB_nc hB
  have hns20 := lB_ns hB
  refine q_aload_n F 1 dL_confirms_0 rfl rfl ?_
  refine q_bipush (v := 6) F dL_confirms_1 (by decide) ?_
  refine q_cld F hB 6 rfl (by decide) dL_confirms_3 ?_
  refine q_top (v' := .int (sc 29 + 1)) ?_ (congrArg Value.int (h6))
  refine q_if_eq F 15 dL_confirms_4 rfl (fun c4 => ?_) (fun c4 => ?_)
  · refine q_aload_n F 0 dL_confirms_15 rfl rfl ?_
    refine q_callV_i F (n_waiting hB) gL_confirms_X4_waiting rfl hd_X4_waiting ⟨Nat.le_of_ble_eq_true rfl, Nat.le_of_ble_eq_true rfl⟩ (lB_o hB) rfl rfl rfl (Nat.le_of_ble_eq_true rfl) dL_confirms_16 ⟨Nat.le_of_ble_eq_true rfl, Nat.le_of_ble_eq_true rfl⟩ ?_
    refine q_aload_n F 1 dL_confirms_19 rfl rfl ?_
    refine q_bipush (v := 6) F dL_confirms_20 (by decide) ?_
    refine q_cld F hB 6 rfl (by decide) dL_confirms_22 ?_
    refine q_top (v' := .int (sc 29 + 1)) ?_ (congrArg Value.int (h6))
    refine q_iconst F dL_confirms_23 hc_1 ?_
    refine q_isub F dL_confirms_24 ?_
    refine q_top (v' := .int (sc 29)) ?_ (congrArg Value.int (Int32.add_sub_cancel (sc 29) 1))
    refine q_icmp_ne F 32 dL_confirms_25 rfl (fun c25 => ?_) (fun c25 => ?_)
    · exact absurd c25 (not_not_intro rfl)
    refine q_iconst F dL_confirms_28 hc_1 ?_
    refine q_goto F 33 dL_confirms_29 rfl ?_
    exact (q_reti F hr rfl dL_confirms_33 (Nat.le_of_ble_eq_true rfl) (Nat.le_of_ble_eq_true rfl) ⟨1, rfl, rfl, _, _, _, _, _, _, _, _, _, _, _, hB, hI, hcI⟩)
  refine q_aload_n F 1 dL_confirms_7 rfl rfl ?_
  refine q_iconst F dL_confirms_8 hc_1 ?_
  refine q_cld F hB 1 rfl (by decide) dL_confirms_9 ?_
  refine q_top (v' := .int (nI n)) ?_ (congrArg Value.int (h1))
  refine q_bipush (v := 40) F dL_confirms_10 (by decide) ?_
  refine q_icmp_ne F 34 dL_confirms_12 rfl (fun c12 => ?_) (fun c12 => ?_)
  · have hn : n < 40 := lt_ne hn40 (by decide) c12
    have h29 : ¬ sc 29 = -1 := fun z => c4 (by rw [z]; decide)
    have hK := (hI.1.2.1 h29).2
    have hj : n < n + 1 := Nat.lt_succ_self n
    refine q_aload_n F 1 dL_confirms_34 rfl rfl ?_
    refine q_bipush (v := 6) F dL_confirms_35 (by decide) ?_
    refine q_cld F hB 6 rfl (by decide) dL_confirms_37 ?_
    refine q_top (v' := .int (sc 29 + 1)) ?_ (congrArg Value.int (h6))
    refine q_iconst F dL_confirms_38 hc_1 ?_
    refine q_isub F dL_confirms_39 ?_
    refine q_top (v' := .int (sc 29)) ?_ (congrArg Value.int (Int32.add_sub_cancel (sc 29) 1))
    refine q_istore_n F 2 dL_confirms_40 rfl (by decide) rfl ?_
    refine q_aload_n F 1 dL_confirms_41 rfl rfl ?_
    refine q_bipush (v := 6) F dL_confirms_42 (by decide) ?_
    refine q_iconst F dL_confirms_44 hc_0 ?_
    refine q_cst F hB 6 rfl (by decide) dL_confirms_45 (fun S45 hB => ?_)
    refine q_aload_n F 1 dL_confirms_46 rfl rfl ?_
    refine q_iconst F dL_confirms_47 hc_1 ?_
    refine q_dup2 F dL_confirms_48 rfl rfl ?_
    refine q_cld F hB 1 rfl (by decide) dL_confirms_49 ?_
    refine q_top (v' := .int (nI n)) ?_ (congrArg Value.int (by rw [va_up_ne _ _ (by decide)]; exact h1))
    refine q_iconst F dL_confirms_50 hc_1 ?_
    refine q_iadd F dL_confirms_51 ?_
    refine q_top (v' := .int (nI (n + 1))) ?_ (congrArg Value.int (nI_1 n))
    refine q_cst F hB 1 rfl (by decide) dL_confirms_52 (fun S52 hB => ?_)
    refine q_aload_n F 0 dL_confirms_53 rfl rfl ?_
    refine q_callV_gi F (n_confirm hst hB hI.1.2.1 h29 hn) gL_confirms_X4_confirm rfl hd_X4_confirm ⟨Nat.le_of_ble_eq_true rfl, Nat.le_of_ble_eq_true rfl⟩ (lB_o hB) rfl rfl rfl (Nat.le_of_ble_eq_true rfl) dL_confirms_54 ⟨Nat.le_of_ble_eq_true rfl, Nat.le_of_ble_eq_true rfl⟩ (fun r S54 hp => ?_)
    obtain ⟨sc1, M1, rfl, hB, hI, hcI, h29, e5, e6, e7⟩ := ex_conf hp hI hcI hK
    refine q_aload_n F 1 dL_confirms_57 rfl rfl ?_
    refine q_iconst F dL_confirms_58 hc_1 ?_
    refine q_cld F hB 1 rfl (by decide) dL_confirms_59 ?_
    refine q_top (v' := .int (nI (n + 1))) ?_ (congrArg Value.int (va_up_self _ _ _))
    refine q_iconst F dL_confirms_60 hc_1 ?_
    refine q_isub F dL_confirms_61 ?_
    refine q_top (v' := .int (nI n)) ?_ (congrArg Value.int (nI_pred n))
    refine q_icmp_ne F 105 dL_confirms_62 rfl (fun c62 => ?_) (fun c62 => ?_)
    · exact absurd c62 (not_not_intro rfl)
    refine q_aload_n F 0 dL_confirms_65 rfl rfl ?_
    refine q_callV_i F (n_waiting hB) gL_confirms_X4_waiting rfl hd_X4_waiting ⟨Nat.le_of_ble_eq_true rfl, Nat.le_of_ble_eq_true rfl⟩ (lB_o hB) rfl rfl rfl (Nat.le_of_ble_eq_true rfl) dL_confirms_66 ⟨Nat.le_of_ble_eq_true rfl, Nat.le_of_ble_eq_true rfl⟩ ?_
    refine q_iconst F dL_confirms_69 hc_m1 ?_
    refine q_icmp_ne F 105 dL_confirms_70 rfl (fun c70 => ?_) (fun c70 => ?_)
    · exact absurd c70 (not_not_intro h29)
    refine q_aload_n F 0 dL_confirms_73 rfl rfl ?_
    refine q_aload_n F 1 dL_confirms_74 rfl rfl ?_
    refine q_iconst F dL_confirms_75 hc_1 ?_
    refine q_cld F hB 1 rfl (by decide) dL_confirms_76 ?_
    refine q_top (v' := .int (nI (n + 1))) ?_ (congrArg Value.int (va_up_self _ _ _))
    refine q_iconst F dL_confirms_77 hc_1 ?_
    refine q_isub F dL_confirms_78 ?_
    refine q_top (v' := .int (nI n)) ?_ (congrArg Value.int (nI_pred n))
    refine q_callV_i F (n_keyOf hst hB hj) gL_confirms_X4_keyOf rfl hd_X4_keyOf ⟨Nat.le_of_ble_eq_true rfl, Nat.le_of_ble_eq_true rfl⟩ (lB_o hB) rfl rfl rfl (Nat.le_of_ble_eq_true rfl) dL_confirms_79 ⟨Nat.le_of_ble_eq_true rfl, Nat.le_of_ble_eq_true rfl⟩ ?_
    refine q_iload_n F 2 dL_confirms_82 rfl rfl ?_
    refine q_icmp_ne F 105 dL_confirms_83 rfl (fun c83 => ?_) (fun c83 => ?_)
    · exact absurd c83 (not_not_intro (by rw [ko_0 e6]; exact e5))
    refine q_aload_n F 0 dL_confirms_86 rfl rfl ?_
    refine q_aload_n F 1 dL_confirms_87 rfl rfl ?_
    refine q_iconst F dL_confirms_88 hc_1 ?_
    refine q_cld F hB 1 rfl (by decide) dL_confirms_89 ?_
    refine q_top (v' := .int (nI (n + 1))) ?_ (congrArg Value.int (va_up_self _ _ _))
    refine q_iconst F dL_confirms_90 hc_1 ?_
    refine q_isub F dL_confirms_91 ?_
    refine q_top (v' := .int (nI n)) ?_ (congrArg Value.int (nI_pred n))
    refine q_callV_i F (n_seen hst hB hj) gL_confirms_X4_seen rfl hd_X4_seen ⟨Nat.le_of_ble_eq_true rfl, Nat.le_of_ble_eq_true rfl⟩ (lB_o hB) rfl rfl rfl (Nat.le_of_ble_eq_true rfl) dL_confirms_92 ⟨Nat.le_of_ble_eq_true rfl, Nat.le_of_ble_eq_true rfl⟩ ?_
    refine q_aload_n F 1 dL_confirms_95 rfl rfl ?_
    refine q_iconst F dL_confirms_96 hc_0 ?_
    refine q_cld F hB 0 rfl (by decide) dL_confirms_97 ?_
    refine q_top (v' := .int (sc1 1)) ?_ (congrArg Value.int (hcI.1))
    refine q_icmp_ne F 105 dL_confirms_98 rfl (fun c98 => ?_) (fun c98 => ?_)
    · exact absurd c98 (not_not_intro e7)
    refine q_iconst F dL_confirms_101 hc_1 ?_
    refine q_goto F 106 dL_confirms_102 rfl ?_
    exact (q_reti F hr rfl dL_confirms_106 (Nat.le_of_ble_eq_true rfl) (Nat.le_of_ble_eq_true rfl) ⟨1, rfl, rfl, _, _, _, _, _, _, _, _, _, _, _, hB, hI, hcI⟩)
  refine q_aload_n F 0 dL_confirms_15 rfl rfl ?_
  refine q_callV_i F (n_waiting hB) gL_confirms_X4_waiting rfl hd_X4_waiting ⟨Nat.le_of_ble_eq_true rfl, Nat.le_of_ble_eq_true rfl⟩ (lB_o hB) rfl rfl rfl (Nat.le_of_ble_eq_true rfl) dL_confirms_16 ⟨Nat.le_of_ble_eq_true rfl, Nat.le_of_ble_eq_true rfl⟩ ?_
  refine q_aload_n F 1 dL_confirms_19 rfl rfl ?_
  refine q_bipush (v := 6) F dL_confirms_20 (by decide) ?_
  refine q_cld F hB 6 rfl (by decide) dL_confirms_22 ?_
  refine q_top (v' := .int (sc 29 + 1)) ?_ (congrArg Value.int (h6))
  refine q_iconst F dL_confirms_23 hc_1 ?_
  refine q_isub F dL_confirms_24 ?_
  refine q_top (v' := .int (sc 29)) ?_ (congrArg Value.int (Int32.add_sub_cancel (sc 29) 1))
  refine q_icmp_ne F 32 dL_confirms_25 rfl (fun c25 => ?_) (fun c25 => ?_)
  · exact absurd c25 (not_not_intro rfl)
  refine q_iconst F dL_confirms_28 hc_1 ?_
  refine q_goto F 33 dL_confirms_29 rfl ?_
  exact (q_reti F hr rfl dL_confirms_33 (Nat.le_of_ble_eq_true rfl) (Nat.le_of_ble_eq_true rfl) ⟨1, rfl, rfl, _, _, _, _, _, _, _, _, _, _, _, hB, hI, hcI⟩)

set_option maxHeartbeats 4000000 in
set_option maxRecDepth 100000 in
theorem c_L_cleans {l : Launch} {g : hG} {X : va_W} {S : hS} (hst : l.stackTraces = false) {h cA bk ca sa : Nat} {f : Nat → Int32} {ad pa : Nat → Nat} {sc : Nat → Int32} {M : Nat → Nat → Int32} {n nc ns : Nat} (hB : lB S h cA f bk ca sa ad pa sc M n nc ns) (hI : lI sc M n) (hcI : cI f sc M n nc ns) {D : Nat} (hD1 : 1 ≤ D) (hD2 : D ≤ 200) : hMet l yL_cleans wsL_cleans rm_L_cleans g X S [.ref h, .ref cA, .int (nI D)] (pGI (fun r S' => r = 1 ∧ lW S' h cA)) := by
  refine h_start (maxL := 6) (ret := (some .boolean)) (by decide) rfl (Nat.le_of_ble_eq_true rfl) ?_
  intro p e s m args below meth c F hr hinit
  have h0 : f 0 = sc 1 := hcI.1
  have h1 : f 1 = nI n := hcI.2.1
  have h2 : f 2 = nI nc := hcI.2.2.1
  have h3 : f 3 = nI ns := hcI.2.2.2.1
  have h4 : f 4 = sc 2 := hcI.2.2.2.2.1
  have h6 : f 6 = sc 29 + 1 := hcI.2.2.2.2.2.1
  have hn40 := lB_n hB
  have hnc20 := lB_nc hB
  have hns20 := lB_ns hB
  have hdd : inR (nI D) 1 5000 = true := inR_nI (a := 1) (b := 5000) hD1 (by omega) (by decide)
  have hs4 : sc 4 = nI n := hB.2.1.1.2.1
  have hun := kN_le (f := clB M (sc 1) (nI D)) n
  refine q_iconst F dL_cleans_0 hc_0 ?_
  refine q_istore_n F 3 dL_cleans_1 rfl (by decide) rfl ?_
  refine q_iconst F dL_cleans_2 hc_0 ?_
  refine q_istore F dL_cleans_3 (by decide) rfl ?_
  have L : ∀ (r j cells slots : Nat), j + r = n → cells + 4 * r ≤ 160 → slots + 24 * r ≤ 960 → V p l e rm_L_cleans s m args below meth c 6 g X (MQ below (hQ g X (pGI (fun r S' => r = 1 ∧ lW S' h cA))) args s rm_L_cleans.cells rm_L_cleans.slots (hA g)) S cells slots [(0, .ref h), (1, .ref cA), (2, .int (nI D)), (3, .int (nI (kN (clB M (sc 1) (nI D)) j))), (4, .int (nI j))] 5 [] := by
    intro r
    induction r with
    | zero =>
      intro j cells slots hjr hcz hsz
      have hjn : j = n := by omega
      refine q_iload F dL_cleans_5 rfl ?_
      refine q_aload_n F 1 dL_cleans_7 rfl rfl ?_
      refine q_iconst F dL_cleans_8 hc_1 ?_
      refine q_cld F hB 1 rfl (by decide) dL_cleans_9 ?_
      refine q_top (v' := .int (nI n)) ?_ (congrArg Value.int (h1))
      refine q_icmp_ge F 87 dL_cleans_10 rfl (fun c10 => ?_) (fun c10 => ?_)
      · rw [hjn]
        refine q_widen (k := 160) (n := 960) (by omega) (by omega) ?_
        refine q_aload_n F 1 dL_cleans_87 rfl rfl ?_
        refine q_iconst F dL_cleans_88 hc_1 ?_
        refine q_dup2 F dL_cleans_89 rfl rfl ?_
        refine q_cld F hB 1 rfl (by decide) dL_cleans_90 ?_
        refine q_top (v' := .int (nI n)) ?_ (congrArg Value.int (h1))
        refine q_iload_n F 3 dL_cleans_91 rfl rfl ?_
        refine q_isub F dL_cleans_92 ?_
        refine q_top (v' := .int (nI (n - kN (clB M (sc 1) (nI D)) n))) ?_ (congrArg Value.int (pk_sub hun))
        refine q_cst F hB 1 rfl (by decide) dL_cleans_93 (fun S93 hB => ?_)
        refine q_aload_n F 0 dL_cleans_94 rfl rfl ?_
        refine q_iload_n F 2 dL_cleans_95 rfl rfl ?_
        refine q_callV_gi F (n_clean hst hB hdd) gL_cleans_X4_clean rfl hd_X4_clean ⟨Nat.le_of_ble_eq_true rfl, Nat.le_of_ble_eq_true rfl⟩ (lB_o hB) rfl rfl rfl (Nat.le_of_ble_eq_true rfl) dL_cleans_96 ⟨Nat.le_of_ble_eq_true rfl, Nat.le_of_ble_eq_true rfl⟩ (fun r S96 hp => ?_)
        obtain ⟨ad1, sc1, M1, rfl, hB, hI, hcI, hcl⟩ := ex_clean rfl hp hI hcI hs4
        refine q_iload_n F 3 dL_cleans_99 rfl rfl ?_
        refine q_icmp_ne F 125 dL_cleans_100 rfl (fun c100 => ?_) (fun c100 => ?_)
        · exact absurd c100 (not_not_intro rfl)
        refine q_aload_n F 0 dL_cleans_103 rfl rfl ?_
        refine q_callV_i F (n_lines hB) gL_cleans_X4_lines rfl hd_X4_lines ⟨Nat.le_of_ble_eq_true rfl, Nat.le_of_ble_eq_true rfl⟩ (lB_o hB) rfl rfl rfl (Nat.le_of_ble_eq_true rfl) dL_cleans_104 ⟨Nat.le_of_ble_eq_true rfl, Nat.le_of_ble_eq_true rfl⟩ ?_
        refine q_aload_n F 1 dL_cleans_107 rfl rfl ?_
        refine q_iconst F dL_cleans_108 hc_1 ?_
        refine q_cld F hB 1 rfl (by decide) dL_cleans_109 ?_
        refine q_top (v' := .int (nI (n - kN (clB M (sc 1) (nI D)) n))) ?_ (congrArg Value.int (va_up_self _ _ _))
        refine q_icmp_ne F 125 dL_cleans_110 rfl (fun c110 => ?_) (fun c110 => ?_)
        · exact absurd c110 (not_not_intro rfl)
        refine q_aload_n F 0 dL_cleans_113 rfl rfl ?_
        refine q_iload_n F 2 dL_cleans_114 rfl rfl ?_
        refine q_callV_gi F (n_clean hst hB hdd) gL_cleans_X4_clean rfl hd_X4_clean ⟨Nat.le_of_ble_eq_true rfl, Nat.le_of_ble_eq_true rfl⟩ (lB_o hB) rfl rfl rfl (Nat.le_of_ble_eq_true rfl) dL_cleans_115 ⟨Nat.le_of_ble_eq_true rfl, Nat.le_of_ble_eq_true rfl⟩ (fun r S115 hp => ?_)
        obtain ⟨ad2, sc2, M2, rfl, hB, hI, hcI⟩ := ex_clean0 hcl hp hI hcI hB.2.1.1.2.1
        refine q_if_ne F 125 dL_cleans_118 rfl (fun c118 => ?_) (fun c118 => ?_)
        · exact absurd c118 (by decide)
        refine q_iconst F dL_cleans_121 hc_1 ?_
        refine q_goto F 126 dL_cleans_122 rfl ?_
        exact (q_reti F hr rfl dL_cleans_126 (Nat.le_of_ble_eq_true rfl) (Nat.le_of_ble_eq_true rfl) ⟨1, rfl, rfl, _, _, _, _, _, _, _, _, _, _, _, hB, hI, hcI⟩)
      exact absurd c10 (gT rfl rfl (show n ≤ j by omega) (by omega))
    | succ r ih =>
      intro j cells slots hjr hcz hsz
      have hj : j < n := by omega
      have hk := hI.1.1 j hj
      have hm := (hI.2.2 j hj).1
      have hc1 : cells + 4 ≤ rm_L_cleans.cells := Nat.le_trans (show cells + 4 ≤ 160 by omega) (Nat.le_of_ble_eq_true rfl)
      have hs1 : slots + 24 ≤ rm_L_cleans.slots := Nat.le_trans (show slots + 24 ≤ 960 by omega) (Nat.le_of_ble_eq_true rfl)
      refine q_iload F dL_cleans_5 rfl ?_
      refine q_aload_n F 1 dL_cleans_7 rfl rfl ?_
      refine q_iconst F dL_cleans_8 hc_1 ?_
      refine q_cld F hB 1 rfl (by decide) dL_cleans_9 ?_
      refine q_top (v' := .int (nI n)) ?_ (congrArg Value.int (h1))
      refine q_icmp_ge F 87 dL_cleans_10 rfl (fun c10 => ?_) (fun c10 => ?_)
      · exact absurd c10 (gF rfl rfl hj (by omega))
      refine q_aload_n F 0 dL_cleans_13 rfl rfl ?_
      refine q_iload F dL_cleans_14 rfl ?_
      refine q_callV_i F (n_end hst hB hj) gL_cleans_X4_end rfl hd_X4_end ⟨Nat.le_of_ble_eq_true rfl, Nat.le_of_ble_eq_true rfl⟩ (lB_o hB) rfl rfl rfl (Nat.le_of_ble_eq_true rfl) dL_cleans_16 ⟨Nat.le_trans (lw_b1 (Nat.le_of_ble_eq_true rfl)) hc1, Nat.le_trans (lw_b1 (Nat.le_of_ble_eq_true rfl)) hs1⟩ ?_
      refine q_cutB (tgt := 40) (st1 := []) (k := cells + 2) (n := slots + 12) (.int (b2 (en (sc 1) (M 8 j)))) (fun K19 => ?_) ?_
      · refine q_iconst F dL_cleans_19 hc_m1 ?_
        refine q_icmp_eq F 39 dL_cleans_20 rfl (fun c20 => ?_) (fun c20 => ?_)
        · refine q_iconst F dL_cleans_39 hc_0 ?_
          exact q_widen (lw_b1 (Nat.le_of_ble_eq_true rfl)) (lw_b1 (Nat.le_of_ble_eq_true rfl)) (q_top K19 (congrArg Value.int (by first | exact en_f1 c20 | exact en_f2 c32 | exact en_t c20 c32)))
        refine q_aload_n F 0 dL_cleans_23 rfl rfl ?_
        refine q_iload F dL_cleans_24 rfl ?_
        refine q_callV_i F (n_end hst hB hj) gL_cleans_X4_end rfl hd_X4_end ⟨Nat.le_of_ble_eq_true rfl, Nat.le_of_ble_eq_true rfl⟩ (lB_o hB) rfl rfl rfl (Nat.le_of_ble_eq_true rfl) dL_cleans_26 ⟨Nat.le_trans (lw_b2 (Nat.le_of_ble_eq_true rfl)) hc1, Nat.le_trans (lw_b2 (Nat.le_of_ble_eq_true rfl)) hs1⟩ ?_
        refine q_aload_n F 1 dL_cleans_29 rfl rfl ?_
        refine q_iconst F dL_cleans_30 hc_0 ?_
        refine q_cld F hB 0 rfl (by decide) dL_cleans_31 ?_
        refine q_top (v' := .int (sc 1)) ?_ (congrArg Value.int (h0))
        refine q_icmp_gt F 39 dL_cleans_32 rfl (fun c32 => ?_) (fun c32 => ?_)
        · refine q_iconst F dL_cleans_39 hc_0 ?_
          exact q_widen (lw_b2 (Nat.le_of_ble_eq_true rfl)) (lw_b2 (Nat.le_of_ble_eq_true rfl)) (q_top K19 (congrArg Value.int (by first | exact en_f1 c20 | exact en_f2 c32 | exact en_t c20 c32)))
        refine q_iconst F dL_cleans_35 hc_1 ?_
        refine q_goto F 40 dL_cleans_36 rfl ?_
        exact q_widen (lw_b2 (Nat.le_of_ble_eq_true rfl)) (lw_b2 (Nat.le_of_ble_eq_true rfl)) (q_top K19 (congrArg Value.int (by first | exact en_f1 c20 | exact en_f2 c32 | exact en_t c20 c32)))
      refine q_istore F dL_cleans_40 (by decide) rfl ?_
      refine q_iload_n F 3 dL_cleans_42 rfl rfl ?_
      refine q_cutB (tgt := 79) (st1 := [.int (nI (kN (clB M (sc 1) (nI D)) j))]) (k := cells + 4) (n := slots + 24) (.int (b2 (clB M (sc 1) (nI D) j))) (fun K43 => ?_) ?_
      · refine q_aload_n F 0 dL_cleans_43 rfl rfl ?_
        refine q_iload F dL_cleans_44 rfl ?_
        refine q_callV_i F (n_keyOf hst hB hj) gL_cleans_X4_keyOf rfl hd_X4_keyOf ⟨Nat.le_of_ble_eq_true rfl, Nat.le_of_ble_eq_true rfl⟩ (lB_o hB) rfl rfl rfl (Nat.le_of_ble_eq_true rfl) dL_cleans_46 ⟨Nat.le_trans (lw_b2 (Nat.le_of_ble_eq_true rfl)) hc1, Nat.le_trans (lw_b2 (Nat.le_of_ble_eq_true rfl)) hs1⟩ ?_
        refine q_sipush (v := 1000) F dL_cleans_49 (by decide) ?_
        refine q_icmp_ge F 78 dL_cleans_52 rfl (fun c52 => ?_) (fun c52 => ?_)
        · refine q_iconst F dL_cleans_78 hc_0 ?_
          exact q_widen (lw_b2 (Nat.le_of_ble_eq_true rfl)) (lw_b2 (Nat.le_of_ble_eq_true rfl)) (q_top K43 (congrArg Value.int (by first | exact clb_0a hm hk c52 | exact clb_1 hm hk c52 c57 | exact clb_0b hm hk c52 c57 c71 | exact clb_1b hm hk c52 c71)))
        refine q_iload F dL_cleans_55 rfl ?_
        refine q_if_ne F 74 dL_cleans_57 rfl (fun c57 => ?_) (fun c57 => ?_)
        · refine q_iconst F dL_cleans_74 hc_1 ?_
          refine q_goto F 79 dL_cleans_75 rfl ?_
          exact q_widen (lw_b2 (Nat.le_of_ble_eq_true rfl)) (lw_b2 (Nat.le_of_ble_eq_true rfl)) (q_top K43 (congrArg Value.int (by first | exact clb_0a hm hk c52 | exact clb_1 hm hk c52 c57 | exact clb_0b hm hk c52 c57 c71 | exact clb_1b hm hk c52 c71)))
        refine q_aload_n F 1 dL_cleans_60 rfl rfl ?_
        refine q_iconst F dL_cleans_61 hc_0 ?_
        refine q_cld F hB 0 rfl (by decide) dL_cleans_62 ?_
        refine q_top (v' := .int (sc 1)) ?_ (congrArg Value.int (h0))
        refine q_aload_n F 0 dL_cleans_63 rfl rfl ?_
        refine q_iload F dL_cleans_64 rfl ?_
        refine q_callV_i F (n_seen hst hB hj) gL_cleans_X4_seen rfl hd_X4_seen ⟨Nat.le_of_ble_eq_true rfl, Nat.le_of_ble_eq_true rfl⟩ (lB_o hB) rfl rfl rfl (Nat.le_of_ble_eq_true rfl) dL_cleans_66 ⟨Nat.le_trans (lw_b3 (Nat.le_of_ble_eq_true rfl)) hc1, Nat.le_trans (lw_b3 (Nat.le_of_ble_eq_true rfl)) hs1⟩ ?_
        refine q_isub F dL_cleans_69 ?_
        refine q_iload_n F 2 dL_cleans_70 rfl rfl ?_
        refine q_icmp_lt F 78 dL_cleans_71 rfl (fun c71 => ?_) (fun c71 => ?_)
        · refine q_iconst F dL_cleans_78 hc_0 ?_
          exact q_widen (lw_b3 (Nat.le_of_ble_eq_true rfl)) (lw_b3 (Nat.le_of_ble_eq_true rfl)) (q_top K43 (congrArg Value.int (by first | exact clb_0a hm hk c52 | exact clb_1 hm hk c52 c57 | exact clb_0b hm hk c52 c57 c71 | exact clb_1b hm hk c52 c71)))
        refine q_iconst F dL_cleans_74 hc_1 ?_
        refine q_goto F 79 dL_cleans_75 rfl ?_
        exact q_widen (lw_b3 (Nat.le_of_ble_eq_true rfl)) (lw_b3 (Nat.le_of_ble_eq_true rfl)) (q_top K43 (congrArg Value.int (by first | exact clb_0a hm hk c52 | exact clb_1 hm hk c52 c57 | exact clb_0b hm hk c52 c57 c71 | exact clb_1b hm hk c52 c71)))
      refine q_iadd F dL_cleans_79 ?_
      refine q_top (v' := .int (nI (kN (clB M (sc 1) (nI D)) (j + 1)))) ?_ (congrArg Value.int (kN_s))
      refine q_istore_n F 3 dL_cleans_80 rfl (by decide) rfl ?_
      refine q_iinc F (nI (j + 1)) dL_cleans_81 rfl (nI_inc j) (by decide) rfl ?_
      refine q_goto F 5 dL_cleans_84 rfl ?_
      exact q_widen (lw_b1 (Nat.le_of_ble_eq_true rfl)) (lw_b1 (Nat.le_of_ble_eq_true rfl)) (q_to (ih (j + 1) (cells + 4) (slots + 24) (by omega) (by omega) (by omega)) ⟨rfl, rfl, rfl, rfl, rfl, trivial⟩)
  exact q_to (L n 0 0 0 (by omega) (by omega) (by omega)) ⟨rfl, rfl, rfl, rfl, rfl, trivial⟩

