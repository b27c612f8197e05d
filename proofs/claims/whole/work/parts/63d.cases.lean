set_option maxHeartbeats 4000000 in
set_option maxRecDepth 100000 in
theorem k_judge_n {p : Program} {l : Launch} {e : Env} {s : State} {m : MethodId} {args : Array Value} {below : List Frame} {meth : Method} {c : Code} {g : hG} {X0 : va_W} {o : Nat} {f : Nat → Int64} {Q : State → Prop} {S : hS} {cells slots b L h md t : Nat} {xs : Nat → Int32} (F : hF p l s m args meth c cL_law 8 wsL_law RL g) (hst : l.stackTraces = false) (hX : va_X b L xs s s.heap) (hb : b < s.heap.size) (hbA : b < g.2.2) (hL : L < 2 ^ 31) (ht : 8 * t + 8 ≤ L) (hc : cells + 9 ≤ room_1.cells) (hs : slots + 55 ≤ room_1.slots) (hJ : jS S h md) (hct : xs (8 * t + 4) = -1) (kk : ∀ (f' : Nat → Int64) (S' : hS), jS S' h md → V p l e room_1 s m args below meth c 8 g (oX g X0 o f') Q S' (cells + 9) (slots + 55) [(0, .ref b), (1, .ref h), (2, .ref md), (3, .ref o), (4, .int (nI (8 * t)))] 1733 []) : V p l e room_1 s m args below meth c 8 g (oX g X0 o f) Q S cells slots [(0, .ref b), (1, .ref h), (2, .ref md), (3, .ref o), (4, .int (nI (8 * t)))] 1144 [] := by
  obtain ⟨sc, bk, ca, sa, ad, pa, ar, M, n, nc, ns, hG, hC, hM, hI⟩ := hJ
  have hCz := cC_z hC
  refine q_aload_n F 1 dL_law_1144 rfl rfl ?_
  refine q_aload_n F 0 dL_law_1145 rfl rfl ?_
  refine q_iload F dL_law_1146 rfl ?_
  refine q_iconst F dL_law_1148 hc_1 ?_
  refine q_iadd F dL_law_1149 ?_
  refine q_sld F hX hb hbA (nI_add (8 * t) 1) (by omega) hL dL_law_1150 ?_
  refine q_aload_n F 0 dL_law_1151 rfl rfl ?_
  refine q_iload F dL_law_1152 rfl ?_
  refine q_iconst F dL_law_1154 hc_2 ?_
  refine q_iadd F dL_law_1155 ?_
  refine q_sld F hX hb hbA (nI_add (8 * t) 2) (by omega) hL dL_law_1156 ?_
  refine q_aload_n F 0 dL_law_1157 rfl rfl ?_
  refine q_iload F dL_law_1158 rfl ?_
  refine q_iconst F dL_law_1160 hc_3 ?_
  refine q_iadd F dL_law_1161 ?_
  refine q_sld F hX hb hbA (nI_add (8 * t) 3) (by omega) hL dL_law_1162 ?_
  refine q_aload_n F 0 dL_law_1163 rfl rfl ?_
  refine q_iload F dL_law_1164 rfl ?_
  refine q_iconst F dL_law_1166 hc_4 ?_
  refine q_iadd F dL_law_1167 ?_
  refine q_sld F hX hb hbA (nI_add (8 * t) 4) (by omega) hL dL_law_1168 ?_
  refine q_top (v' := .int (-1)) ?_ (congrArg Value.int hct)
  refine q_aload_n F 3 dL_law_1169 rfl rfl ?_
  refine q_callO F (c_L_judge_n hst hG hCz) gL_law_L_judge rfl hd_L_judge ⟨Nat.le_of_ble_eq_true rfl, Nat.le_of_ble_eq_true rfl⟩ rfl rfl (Nat.le_of_ble_eq_true rfl) dL_law_1170 ⟨Nat.le_trans (lw_b1 (Nat.le_of_ble_eq_true rfl)) hc, Nat.le_trans (lw_b1 (Nat.le_of_ble_eq_true rfl)) hs⟩ (fun r1 f1 S1 hw => ?_)
  refine q_istore F dL_law_1173 (by decide) rfl ?_
  have hM1 := mS_cl hM (pw1_cl hw (fun z => by obtain ⟨v, -, -, rfl, -⟩ := z; exact clF.rf _))
  rw [jb_none (ns := ns) (jI_key hI)] at hw
  refine q_aload_n F 2 dL_law_1175 rfl rfl ?_
  refine q_aload_n F 0 dL_law_1176 rfl rfl ?_
  refine q_iload F dL_law_1177 rfl ?_
  refine q_iconst F dL_law_1179 hc_1 ?_
  refine q_iadd F dL_law_1180 ?_
  refine q_sld F hX hb hbA (nI_add (8 * t) 1) (by omega) hL dL_law_1181 ?_
  refine q_aload_n F 0 dL_law_1182 rfl rfl ?_
  refine q_iload F dL_law_1183 rfl ?_
  refine q_iconst F dL_law_1185 hc_2 ?_
  refine q_iadd F dL_law_1186 ?_
  refine q_sld F hX hb hbA (nI_add (8 * t) 2) (by omega) hL dL_law_1187 ?_
  refine q_aload_n F 0 dL_law_1188 rfl rfl ?_
  refine q_iload F dL_law_1189 rfl ?_
  refine q_iconst F dL_law_1191 hc_3 ?_
  refine q_iadd F dL_law_1192 ?_
  refine q_sld F hX hb hbA (nI_add (8 * t) 3) (by omega) hL dL_law_1193 ?_
  refine q_aload_n F 0 dL_law_1194 rfl rfl ?_
  refine q_iload F dL_law_1195 rfl ?_
  refine q_iconst F dL_law_1197 hc_4 ?_
  refine q_iadd F dL_law_1198 ?_
  refine q_sld F hX hb hbA (nI_add (8 * t) 4) (by omega) hL dL_law_1199 ?_
  refine q_top (v' := .int (-1)) ?_ (congrArg Value.int hct)
  refine q_callV_gi F (c_Y_judge_n hM1 hC.1.2.1 hC.1.2.2 (cC_sz hC) hC.2.2.2.1.2.1 hC.2.2.2.1.2.2 hC.2.2.1.2.1 hC.2.2.1.2.2) gL_law_X5_judge rfl hd_X5_judge ⟨Nat.le_of_ble_eq_true rfl, Nat.le_of_ble_eq_true rfl⟩ hM1.1.1 rfl rfl rfl (Nat.le_of_ble_eq_true rfl) dL_law_1200 ⟨Nat.le_trans (lw_b2 (Nat.le_of_ble_eq_true rfl)) hc, Nat.le_trans (lw_b2 (Nat.le_of_ble_eq_true rfl)) hs⟩ (fun x2 S2 hp => ?_)
  have hT := j_judge_n hG hCz hI hw hp
  refine q_istore F dL_law_1203 (by decide) rfl ?_
  obtain ⟨hJ2, ⟨sc2, M2, hM2, hr2⟩, ha2⟩ := hT
  refine q_aload_n F 2 dL_law_1205 rfl rfl ?_
  refine q_callV_i F (c_X5_thrown hM2) gL_law_X5_thrown rfl hd_X5_thrown ⟨Nat.le_of_ble_eq_true rfl, Nat.le_of_ble_eq_true rfl⟩ hM2.1.1 rfl rfl rfl (Nat.le_of_ble_eq_true rfl) dL_law_1206 ⟨Nat.le_trans (lw_b3 (Nat.le_of_ble_eq_true rfl)) hc, Nat.le_trans (lw_b3 (Nat.le_of_ble_eq_true rfl)) hs⟩ ?_
  refine q_iload F dL_law_1209 rfl ?_
  refine q_icmp_eq F 1216 dL_law_1211 rfl (fun c1 => ?_) (fun c1 => absurd hr2 c1)
  refine q_iload F dL_law_1216 rfl ?_
  refine q_if_ne F 1233 dL_law_1218 rfl (fun c2 => ?_) (fun c2 => ?_)
  · skip
    refine q_goto F 1733 dL_law_1233 rfl ?_
    exact q_widen (lw_b3 (Nat.le_of_ble_eq_true rfl)) (lw_b3 (Nat.le_of_ble_eq_true rfl)) (q_to (kk _ _ hJ2) ⟨rfl, rfl, rfl, rfl, rfl, trivial⟩)
  refine q_aload_n F 3 dL_law_1221 rfl rfl ?_
  refine q_iconst F dL_law_1222 hc_0 ?_
  refine q_lald F dL_law_1223 ?_
  refine q_iload F dL_law_1224 rfl ?_
  refine q_i2l F dL_law_1226 ?_
  refine q_lcmp F (ha2 c2) dL_law_1227 ?_
  refine q_if_eq F 1233 dL_law_1228 rfl (fun c4 => ?_) (fun c4 => absurd rfl c4)
  refine q_goto F 1733 dL_law_1233 rfl ?_
  exact q_widen (lw_b3 (Nat.le_of_ble_eq_true rfl)) (lw_b3 (Nat.le_of_ble_eq_true rfl)) (q_to (kk _ _ hJ2) ⟨rfl, rfl, rfl, rfl, rfl, trivial⟩)

set_option maxHeartbeats 4000000 in
set_option maxRecDepth 100000 in
theorem k_judge_c {p : Program} {l : Launch} {e : Env} {s : State} {m : MethodId} {args : Array Value} {below : List Frame} {meth : Method} {c : Code} {g : hG} {X0 : va_W} {o : Nat} {f : Nat → Int64} {Q : State → Prop} {S : hS} {cells slots b L h md t : Nat} {xs : Nat → Int32} (F : hF p l s m args meth c cL_law 8 wsL_law RL g) (hst : l.stackTraces = false) (hX : va_X b L xs s s.heap) (hb : b < s.heap.size) (hbA : b < g.2.2) (hL : L < 2 ^ 31) (ht : 8 * t + 8 ≤ L) (hc : cells + 9 ≤ room_1.cells) (hs : slots + 55 ≤ room_1.slots) (hJ : jS S h md) (hct : ¬ xs (8 * t + 4) = -1) (kk : ∀ (f' : Nat → Int64) (S' : hS), jS S' h md → V p l e room_1 s m args below meth c 8 g (oX g X0 o f') Q S' (cells + 9) (slots + 55) [(0, .ref b), (1, .ref h), (2, .ref md), (3, .ref o), (4, .int (nI (8 * t)))] 1733 []) : V p l e room_1 s m args below meth c 8 g (oX g X0 o f) Q S cells slots [(0, .ref b), (1, .ref h), (2, .ref md), (3, .ref o), (4, .int (nI (8 * t)))] 1144 [] := by
  obtain ⟨sc, bk, ca, sa, ad, pa, ar, M, n, nc, ns, hG, hC, hM, hI⟩ := hJ
  have hCz := cC_z hC
  refine q_aload_n F 1 dL_law_1144 rfl rfl ?_
  refine q_aload_n F 0 dL_law_1145 rfl rfl ?_
  refine q_iload F dL_law_1146 rfl ?_
  refine q_iconst F dL_law_1148 hc_1 ?_
  refine q_iadd F dL_law_1149 ?_
  refine q_sld F hX hb hbA (nI_add (8 * t) 1) (by omega) hL dL_law_1150 ?_
  refine q_aload_n F 0 dL_law_1151 rfl rfl ?_
  refine q_iload F dL_law_1152 rfl ?_
  refine q_iconst F dL_law_1154 hc_2 ?_
  refine q_iadd F dL_law_1155 ?_
  refine q_sld F hX hb hbA (nI_add (8 * t) 2) (by omega) hL dL_law_1156 ?_
  refine q_aload_n F 0 dL_law_1157 rfl rfl ?_
  refine q_iload F dL_law_1158 rfl ?_
  refine q_iconst F dL_law_1160 hc_3 ?_
  refine q_iadd F dL_law_1161 ?_
  refine q_sld F hX hb hbA (nI_add (8 * t) 3) (by omega) hL dL_law_1162 ?_
  refine q_aload_n F 0 dL_law_1163 rfl rfl ?_
  refine q_iload F dL_law_1164 rfl ?_
  refine q_iconst F dL_law_1166 hc_4 ?_
  refine q_iadd F dL_law_1167 ?_
  refine q_sld F hX hb hbA (nI_add (8 * t) 4) (by omega) hL dL_law_1168 ?_
  refine q_aload_n F 3 dL_law_1169 rfl rfl ?_
  refine q_callO F (c_L_judge hst hG hCz hct) gL_law_L_judge rfl hd_L_judge ⟨Nat.le_of_ble_eq_true rfl, Nat.le_of_ble_eq_true rfl⟩ rfl rfl (Nat.le_of_ble_eq_true rfl) dL_law_1170 ⟨Nat.le_trans (lw_b1 (Nat.le_of_ble_eq_true rfl)) hc, Nat.le_trans (lw_b1 (Nat.le_of_ble_eq_true rfl)) hs⟩ (fun r1 f1 S1 hw => ?_)
  refine q_istore F dL_law_1173 (by decide) rfl ?_
  have hM1 := mS_cl hM (pw2_cl hw (fun z => by obtain ⟨v, -, -, rfl, -⟩ := z; exact clF.rf _))
  rw [jo_some] at hw
  refine q_aload_n F 2 dL_law_1175 rfl rfl ?_
  refine q_aload_n F 0 dL_law_1176 rfl rfl ?_
  refine q_iload F dL_law_1177 rfl ?_
  refine q_iconst F dL_law_1179 hc_1 ?_
  refine q_iadd F dL_law_1180 ?_
  refine q_sld F hX hb hbA (nI_add (8 * t) 1) (by omega) hL dL_law_1181 ?_
  refine q_aload_n F 0 dL_law_1182 rfl rfl ?_
  refine q_iload F dL_law_1183 rfl ?_
  refine q_iconst F dL_law_1185 hc_2 ?_
  refine q_iadd F dL_law_1186 ?_
  refine q_sld F hX hb hbA (nI_add (8 * t) 2) (by omega) hL dL_law_1187 ?_
  refine q_aload_n F 0 dL_law_1188 rfl rfl ?_
  refine q_iload F dL_law_1189 rfl ?_
  refine q_iconst F dL_law_1191 hc_3 ?_
  refine q_iadd F dL_law_1192 ?_
  refine q_sld F hX hb hbA (nI_add (8 * t) 3) (by omega) hL dL_law_1193 ?_
  refine q_aload_n F 0 dL_law_1194 rfl rfl ?_
  refine q_iload F dL_law_1195 rfl ?_
  refine q_iconst F dL_law_1197 hc_4 ?_
  refine q_iadd F dL_law_1198 ?_
  refine q_sld F hX hb hbA (nI_add (8 * t) 4) (by omega) hL dL_law_1199 ?_
  refine q_callV_gi F (c_Y_judge_c hM1 hC.1.2.1 hC.1.2.2 (cC_sz hC) hC.2.2.2.1.2.1 hC.2.2.2.1.2.2 hC.2.2.1.2.1 hC.2.2.1.2.2 hct) gL_law_X5_judge rfl hd_X5_judge ⟨Nat.le_of_ble_eq_true rfl, Nat.le_of_ble_eq_true rfl⟩ hM1.1.1 rfl rfl rfl (Nat.le_of_ble_eq_true rfl) dL_law_1200 ⟨Nat.le_trans (lw_b2 (Nat.le_of_ble_eq_true rfl)) hc, Nat.le_trans (lw_b2 (Nat.le_of_ble_eq_true rfl)) hs⟩ (fun x2 S2 hp => ?_)
  have hT := j_judge hG hCz hct hI hw hp
  refine q_istore F dL_law_1203 (by decide) rfl ?_
  obtain ⟨hJ2, ⟨sc2, M2, hM2, hr2⟩, ha2⟩ := hT
  refine q_aload_n F 2 dL_law_1205 rfl rfl ?_
  refine q_callV_i F (c_X5_thrown hM2) gL_law_X5_thrown rfl hd_X5_thrown ⟨Nat.le_of_ble_eq_true rfl, Nat.le_of_ble_eq_true rfl⟩ hM2.1.1 rfl rfl rfl (Nat.le_of_ble_eq_true rfl) dL_law_1206 ⟨Nat.le_trans (lw_b3 (Nat.le_of_ble_eq_true rfl)) hc, Nat.le_trans (lw_b3 (Nat.le_of_ble_eq_true rfl)) hs⟩ ?_
  refine q_iload F dL_law_1209 rfl ?_
  refine q_icmp_eq F 1216 dL_law_1211 rfl (fun c1 => ?_) (fun c1 => absurd hr2 c1)
  refine q_iload F dL_law_1216 rfl ?_
  refine q_if_ne F 1233 dL_law_1218 rfl (fun c2 => ?_) (fun c2 => ?_)
  · skip
    refine q_goto F 1733 dL_law_1233 rfl ?_
    exact q_widen (lw_b3 (Nat.le_of_ble_eq_true rfl)) (lw_b3 (Nat.le_of_ble_eq_true rfl)) (q_to (kk _ _ hJ2) ⟨rfl, rfl, rfl, rfl, rfl, trivial⟩)
  refine q_aload_n F 3 dL_law_1221 rfl rfl ?_
  refine q_iconst F dL_law_1222 hc_0 ?_
  refine q_lald F dL_law_1223 ?_
  refine q_iload F dL_law_1224 rfl ?_
  refine q_i2l F dL_law_1226 ?_
  refine q_lcmp F (ha2 c2) dL_law_1227 ?_
  refine q_if_eq F 1233 dL_law_1228 rfl (fun c4 => ?_) (fun c4 => absurd rfl c4)
  refine q_goto F 1733 dL_law_1233 rfl ?_
  exact q_widen (lw_b3 (Nat.le_of_ble_eq_true rfl)) (lw_b3 (Nat.le_of_ble_eq_true rfl)) (q_to (kk _ _ hJ2) ⟨rfl, rfl, rfl, rfl, rfl, trivial⟩)

set_option maxHeartbeats 4000000 in
set_option maxRecDepth 100000 in
theorem k_answer_n {p : Program} {l : Launch} {e : Env} {s : State} {m : MethodId} {args : Array Value} {below : List Frame} {meth : Method} {c : Code} {g : hG} {X0 : va_W} {o : Nat} {f : Nat → Int64} {Q : State → Prop} {S : hS} {cells slots b L h md t : Nat} {xs : Nat → Int32} (F : hF p l s m args meth c cL_law 8 wsL_law RL g) (hst : l.stackTraces = false) (hX : va_X b L xs s s.heap) (hb : b < s.heap.size) (hbA : b < g.2.2) (hL : L < 2 ^ 31) (ht : 8 * t + 8 ≤ L) (hc : cells + 9 ≤ room_1.cells) (hs : slots + 55 ≤ room_1.slots) (hJ : jS S h md) (hct : xs (8 * t + 4) = -1) (kk : ∀ (f' : Nat → Int64) (S' : hS), jS S' h md → V p l e room_1 s m args below meth c 8 g (oX g X0 o f') Q S' (cells + 9) (slots + 55) [(0, .ref b), (1, .ref h), (2, .ref md), (3, .ref o), (4, .int (nI (8 * t)))] 1733 []) : V p l e room_1 s m args below meth c 8 g (oX g X0 o f) Q S cells slots [(0, .ref b), (1, .ref h), (2, .ref md), (3, .ref o), (4, .int (nI (8 * t)))] 792 [] := by
  obtain ⟨sc, bk, ca, sa, ad, pa, ar, M, n, nc, ns, hG, hC, hM, hI⟩ := hJ
  have hCz := cC_z hC
  refine q_aload_n F 1 dL_law_792 rfl rfl ?_
  refine q_aload_n F 0 dL_law_793 rfl rfl ?_
  refine q_iload F dL_law_794 rfl ?_
  refine q_iconst F dL_law_796 hc_1 ?_
  refine q_iadd F dL_law_797 ?_
  refine q_sld F hX hb hbA (nI_add (8 * t) 1) (by omega) hL dL_law_798 ?_
  refine q_aload_n F 0 dL_law_799 rfl rfl ?_
  refine q_iload F dL_law_800 rfl ?_
  refine q_iconst F dL_law_802 hc_2 ?_
  refine q_iadd F dL_law_803 ?_
  refine q_sld F hX hb hbA (nI_add (8 * t) 2) (by omega) hL dL_law_804 ?_
  refine q_aload_n F 0 dL_law_805 rfl rfl ?_
  refine q_iload F dL_law_806 rfl ?_
  refine q_iconst F dL_law_808 hc_3 ?_
  refine q_iadd F dL_law_809 ?_
  refine q_sld F hX hb hbA (nI_add (8 * t) 3) (by omega) hL dL_law_810 ?_
  refine q_aload_n F 0 dL_law_811 rfl rfl ?_
  refine q_iload F dL_law_812 rfl ?_
  refine q_iconst F dL_law_814 hc_4 ?_
  refine q_iadd F dL_law_815 ?_
  refine q_sld F hX hb hbA (nI_add (8 * t) 4) (by omega) hL dL_law_816 ?_
  refine q_top (v' := .int (-1)) ?_ (congrArg Value.int hct)
  refine q_aload_n F 3 dL_law_817 rfl rfl ?_
  refine q_callO F (c_L_answer_n hst hG hCz) gL_law_L_answer rfl hd_L_answer ⟨Nat.le_of_ble_eq_true rfl, Nat.le_of_ble_eq_true rfl⟩ rfl rfl (Nat.le_of_ble_eq_true rfl) dL_law_818 ⟨Nat.le_trans (lw_b1 (Nat.le_of_ble_eq_true rfl)) hc, Nat.le_trans (lw_b1 (Nat.le_of_ble_eq_true rfl)) hs⟩ (fun r1 f1 S1 hw => ?_)
  refine q_istore F dL_law_821 (by decide) rfl ?_
  have hM1 := mS_cl hM (pw1_cl hw (fun z => by obtain ⟨v, -, -, -, hP⟩ := z; exact hP.2.2))
  rw [jb_none (ns := ns) (jI_key hI)] at hw
  rw [aAns_none (jI_key hI)] at hw
  refine q_aload_n F 2 dL_law_823 rfl rfl ?_
  refine q_aload_n F 0 dL_law_824 rfl rfl ?_
  refine q_iload F dL_law_825 rfl ?_
  refine q_iconst F dL_law_827 hc_1 ?_
  refine q_iadd F dL_law_828 ?_
  refine q_sld F hX hb hbA (nI_add (8 * t) 1) (by omega) hL dL_law_829 ?_
  refine q_aload_n F 0 dL_law_830 rfl rfl ?_
  refine q_iload F dL_law_831 rfl ?_
  refine q_iconst F dL_law_833 hc_2 ?_
  refine q_iadd F dL_law_834 ?_
  refine q_sld F hX hb hbA (nI_add (8 * t) 2) (by omega) hL dL_law_835 ?_
  refine q_aload_n F 0 dL_law_836 rfl rfl ?_
  refine q_iload F dL_law_837 rfl ?_
  refine q_iconst F dL_law_839 hc_3 ?_
  refine q_iadd F dL_law_840 ?_
  refine q_sld F hX hb hbA (nI_add (8 * t) 3) (by omega) hL dL_law_841 ?_
  refine q_aload_n F 0 dL_law_842 rfl rfl ?_
  refine q_iload F dL_law_843 rfl ?_
  refine q_iconst F dL_law_845 hc_4 ?_
  refine q_iadd F dL_law_846 ?_
  refine q_sld F hX hb hbA (nI_add (8 * t) 4) (by omega) hL dL_law_847 ?_
  refine q_top (v' := .int (-1)) ?_ (congrArg Value.int hct)
  refine q_callV_gi F (c_Y_answer_n hM1 hC.1.2.1 hC.1.2.2 (cC_sz hC) hC.2.2.2.1.2.1 hC.2.2.2.1.2.2 hC.2.2.1.2.1 hC.2.2.1.2.2) gL_law_X5_answer rfl hd_X5_answer ⟨Nat.le_of_ble_eq_true rfl, Nat.le_of_ble_eq_true rfl⟩ hM1.1.1 rfl rfl rfl (Nat.le_of_ble_eq_true rfl) dL_law_848 ⟨Nat.le_trans (lw_b2 (Nat.le_of_ble_eq_true rfl)) hc, Nat.le_trans (lw_b2 (Nat.le_of_ble_eq_true rfl)) hs⟩ (fun x2 S2 hp => ?_)
  have hT := j_answer_n hG hCz hI hw hp
  refine q_istore F dL_law_851 (by decide) rfl ?_
  obtain ⟨hJ2, ⟨sc2, M2, hM2, hr2⟩, ha2⟩ := hT
  refine q_aload_n F 2 dL_law_853 rfl rfl ?_
  refine q_callV_i F (c_X5_thrown hM2) gL_law_X5_thrown rfl hd_X5_thrown ⟨Nat.le_of_ble_eq_true rfl, Nat.le_of_ble_eq_true rfl⟩ hM2.1.1 rfl rfl rfl (Nat.le_of_ble_eq_true rfl) dL_law_854 ⟨Nat.le_trans (lw_b3 (Nat.le_of_ble_eq_true rfl)) hc, Nat.le_trans (lw_b3 (Nat.le_of_ble_eq_true rfl)) hs⟩ ?_
  refine q_iload F dL_law_857 rfl ?_
  refine q_icmp_eq F 864 dL_law_859 rfl (fun c1 => ?_) (fun c1 => absurd hr2 c1)
  refine q_iload F dL_law_864 rfl ?_
  refine q_if_ne F 881 dL_law_866 rfl (fun c2 => ?_) (fun c2 => ?_)
  · skip
    refine q_goto F 1733 dL_law_881 rfl ?_
    exact q_widen (lw_b3 (Nat.le_of_ble_eq_true rfl)) (lw_b3 (Nat.le_of_ble_eq_true rfl)) (q_to (kk _ _ hJ2) ⟨rfl, rfl, rfl, rfl, rfl, trivial⟩)
  refine q_aload_n F 3 dL_law_869 rfl rfl ?_
  refine q_iconst F dL_law_870 hc_0 ?_
  refine q_lald F dL_law_871 ?_
  refine q_iload F dL_law_872 rfl ?_
  refine q_i2l F dL_law_874 ?_
  refine q_lcmp F (ha2 c2) dL_law_875 ?_
  refine q_if_eq F 881 dL_law_876 rfl (fun c4 => ?_) (fun c4 => absurd rfl c4)
  refine q_goto F 1733 dL_law_881 rfl ?_
  exact q_widen (lw_b3 (Nat.le_of_ble_eq_true rfl)) (lw_b3 (Nat.le_of_ble_eq_true rfl)) (q_to (kk _ _ hJ2) ⟨rfl, rfl, rfl, rfl, rfl, trivial⟩)

set_option maxHeartbeats 4000000 in
set_option maxRecDepth 100000 in
theorem k_answer_c {p : Program} {l : Launch} {e : Env} {s : State} {m : MethodId} {args : Array Value} {below : List Frame} {meth : Method} {c : Code} {g : hG} {X0 : va_W} {o : Nat} {f : Nat → Int64} {Q : State → Prop} {S : hS} {cells slots b L h md t : Nat} {xs : Nat → Int32} (F : hF p l s m args meth c cL_law 8 wsL_law RL g) (hst : l.stackTraces = false) (hX : va_X b L xs s s.heap) (hb : b < s.heap.size) (hbA : b < g.2.2) (hL : L < 2 ^ 31) (ht : 8 * t + 8 ≤ L) (hc : cells + 9 ≤ room_1.cells) (hs : slots + 55 ≤ room_1.slots) (hJ : jS S h md) (hct : ¬ xs (8 * t + 4) = -1) (kk : ∀ (f' : Nat → Int64) (S' : hS), jS S' h md → V p l e room_1 s m args below meth c 8 g (oX g X0 o f') Q S' (cells + 9) (slots + 55) [(0, .ref b), (1, .ref h), (2, .ref md), (3, .ref o), (4, .int (nI (8 * t)))] 1733 []) : V p l e room_1 s m args below meth c 8 g (oX g X0 o f) Q S cells slots [(0, .ref b), (1, .ref h), (2, .ref md), (3, .ref o), (4, .int (nI (8 * t)))] 792 [] := by
  obtain ⟨sc, bk, ca, sa, ad, pa, ar, M, n, nc, ns, hG, hC, hM, hI⟩ := hJ
  have hCz := cC_z hC
  refine q_aload_n F 1 dL_law_792 rfl rfl ?_
  refine q_aload_n F 0 dL_law_793 rfl rfl ?_
  refine q_iload F dL_law_794 rfl ?_
  refine q_iconst F dL_law_796 hc_1 ?_
  refine q_iadd F dL_law_797 ?_
  refine q_sld F hX hb hbA (nI_add (8 * t) 1) (by omega) hL dL_law_798 ?_
  refine q_aload_n F 0 dL_law_799 rfl rfl ?_
  refine q_iload F dL_law_800 rfl ?_
  refine q_iconst F dL_law_802 hc_2 ?_
  refine q_iadd F dL_law_803 ?_
  refine q_sld F hX hb hbA (nI_add (8 * t) 2) (by omega) hL dL_law_804 ?_
  refine q_aload_n F 0 dL_law_805 rfl rfl ?_
  refine q_iload F dL_law_806 rfl ?_
  refine q_iconst F dL_law_808 hc_3 ?_
  refine q_iadd F dL_law_809 ?_
  refine q_sld F hX hb hbA (nI_add (8 * t) 3) (by omega) hL dL_law_810 ?_
  refine q_aload_n F 0 dL_law_811 rfl rfl ?_
  refine q_iload F dL_law_812 rfl ?_
  refine q_iconst F dL_law_814 hc_4 ?_
  refine q_iadd F dL_law_815 ?_
  refine q_sld F hX hb hbA (nI_add (8 * t) 4) (by omega) hL dL_law_816 ?_
  refine q_aload_n F 3 dL_law_817 rfl rfl ?_
  refine q_callO F (c_L_answer hst hG hCz hct) gL_law_L_answer rfl hd_L_answer ⟨Nat.le_of_ble_eq_true rfl, Nat.le_of_ble_eq_true rfl⟩ rfl rfl (Nat.le_of_ble_eq_true rfl) dL_law_818 ⟨Nat.le_trans (lw_b1 (Nat.le_of_ble_eq_true rfl)) hc, Nat.le_trans (lw_b1 (Nat.le_of_ble_eq_true rfl)) hs⟩ (fun r1 f1 S1 hw => ?_)
  refine q_istore F dL_law_821 (by decide) rfl ?_
  have hM1 := mS_cl hM (pw2_cl hw (fun z => by obtain ⟨v, -, -, -, hP⟩ := z; exact hP.2.2))
  rw [jo_some] at hw
  refine q_aload_n F 2 dL_law_823 rfl rfl ?_
  refine q_aload_n F 0 dL_law_824 rfl rfl ?_
  refine q_iload F dL_law_825 rfl ?_
  refine q_iconst F dL_law_827 hc_1 ?_
  refine q_iadd F dL_law_828 ?_
  refine q_sld F hX hb hbA (nI_add (8 * t) 1) (by omega) hL dL_law_829 ?_
  refine q_aload_n F 0 dL_law_830 rfl rfl ?_
  refine q_iload F dL_law_831 rfl ?_
  refine q_iconst F dL_law_833 hc_2 ?_
  refine q_iadd F dL_law_834 ?_
  refine q_sld F hX hb hbA (nI_add (8 * t) 2) (by omega) hL dL_law_835 ?_
  refine q_aload_n F 0 dL_law_836 rfl rfl ?_
  refine q_iload F dL_law_837 rfl ?_
  refine q_iconst F dL_law_839 hc_3 ?_
  refine q_iadd F dL_law_840 ?_
  refine q_sld F hX hb hbA (nI_add (8 * t) 3) (by omega) hL dL_law_841 ?_
  refine q_aload_n F 0 dL_law_842 rfl rfl ?_
  refine q_iload F dL_law_843 rfl ?_
  refine q_iconst F dL_law_845 hc_4 ?_
  refine q_iadd F dL_law_846 ?_
  refine q_sld F hX hb hbA (nI_add (8 * t) 4) (by omega) hL dL_law_847 ?_
  refine q_callV_gi F (c_Y_answer_c hM1 hC.1.2.1 hC.1.2.2 (cC_sz hC) hC.2.2.2.1.2.1 hC.2.2.2.1.2.2 hC.2.2.1.2.1 hC.2.2.1.2.2 hct) gL_law_X5_answer rfl hd_X5_answer ⟨Nat.le_of_ble_eq_true rfl, Nat.le_of_ble_eq_true rfl⟩ hM1.1.1 rfl rfl rfl (Nat.le_of_ble_eq_true rfl) dL_law_848 ⟨Nat.le_trans (lw_b2 (Nat.le_of_ble_eq_true rfl)) hc, Nat.le_trans (lw_b2 (Nat.le_of_ble_eq_true rfl)) hs⟩ (fun x2 S2 hp => ?_)
  have hT := j_answer hG hCz hct hI hw hp
  refine q_istore F dL_law_851 (by decide) rfl ?_
  obtain ⟨hJ2, ⟨sc2, M2, hM2, hr2⟩, ha2⟩ := hT
  refine q_aload_n F 2 dL_law_853 rfl rfl ?_
  refine q_callV_i F (c_X5_thrown hM2) gL_law_X5_thrown rfl hd_X5_thrown ⟨Nat.le_of_ble_eq_true rfl, Nat.le_of_ble_eq_true rfl⟩ hM2.1.1 rfl rfl rfl (Nat.le_of_ble_eq_true rfl) dL_law_854 ⟨Nat.le_trans (lw_b3 (Nat.le_of_ble_eq_true rfl)) hc, Nat.le_trans (lw_b3 (Nat.le_of_ble_eq_true rfl)) hs⟩ ?_
  refine q_iload F dL_law_857 rfl ?_
  refine q_icmp_eq F 864 dL_law_859 rfl (fun c1 => ?_) (fun c1 => absurd hr2 c1)
  refine q_iload F dL_law_864 rfl ?_
  refine q_if_ne F 881 dL_law_866 rfl (fun c2 => ?_) (fun c2 => ?_)
  · skip
    refine q_goto F 1733 dL_law_881 rfl ?_
    exact q_widen (lw_b3 (Nat.le_of_ble_eq_true rfl)) (lw_b3 (Nat.le_of_ble_eq_true rfl)) (q_to (kk _ _ hJ2) ⟨rfl, rfl, rfl, rfl, rfl, trivial⟩)
  refine q_aload_n F 3 dL_law_869 rfl rfl ?_
  refine q_iconst F dL_law_870 hc_0 ?_
  refine q_lald F dL_law_871 ?_
  refine q_iload F dL_law_872 rfl ?_
  refine q_i2l F dL_law_874 ?_
  refine q_lcmp F (ha2 c2) dL_law_875 ?_
  refine q_if_eq F 881 dL_law_876 rfl (fun c4 => ?_) (fun c4 => absurd rfl c4)
  refine q_goto F 1733 dL_law_881 rfl ?_
  exact q_widen (lw_b3 (Nat.le_of_ble_eq_true rfl)) (lw_b3 (Nat.le_of_ble_eq_true rfl)) (q_to (kk _ _ hJ2) ⟨rfl, rfl, rfl, rfl, rfl, trivial⟩)
