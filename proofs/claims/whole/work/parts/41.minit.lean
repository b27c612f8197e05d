abbrev rm_X5_init2 : Room := { frames := 1, cells := 22, slots := 1160, locals := 40 }
set_option maxHeartbeats 4000000 in
set_option maxRecDepth 100000 in
theorem c_X5_init {l : Launch} {g : hG} {X : va_W} {S : hS} {md : Nat} (hO5 : isO S md 5) (hz : ∀ x, sF S x md = 0) : hMet l yX5_init wsX5_init rm_X5_init2 g X S [.ref md] (pGV (fun S' => ∃ ar, mS S' md ar sc0 M0 ∧ mdN S S')) := by
  refine h_start (maxL := 1) (ret := none) (by decide) rfl (Nat.le_of_ble_eq_true rfl) ?_
  intro p e s m args below meth c F hr hinit
  refine q_aload_n F 0 dX5_init_0 rfl rfl ?_
  refine q_objInit F (List.mem_of_getElem? (i := 31) (by decide +kernel)) dX5_init_1 ⟨Nat.le_of_ble_eq_true rfl, Nat.le_of_ble_eq_true rfl⟩ ?_
  refine q_aload_n F 0 dX5_init_4 rfl rfl ?_
  refine q_iconst F dX5_init_5 hc_1 ?_
  refine qp_X5_7 F hO5 dX5_init_6 ?_
  have hI := iM_0 hO5
  refine q_aload_n F 0 dX5_init_9 rfl rfl ?_
  refine q_bipush (v := 40) F dX5_init_10 (by decide) ?_
  refine qn_int_40 F ⟨Nat.le_of_ble_eq_true rfl, Nat.le_of_ble_eq_true rfl⟩ dX5_init_12 (fun q12 hq12 => ?_)
  refine qp_X5_13 F hinit (isO_nA' hI.2.1 hq12) dX5_init_14 ?_
  refine q_mi 5 rfl hq12 hI (fun S14 ar14 hI => ?_)
  refine q_aload_n F 0 dX5_init_17 rfl rfl ?_
  refine q_bipush (v := 40) F dX5_init_18 (by decide) ?_
  refine qn_int_40 F ⟨Nat.le_of_ble_eq_true rfl, Nat.le_of_ble_eq_true rfl⟩ dX5_init_20 (fun q20 hq20 => ?_)
  refine qp_X5_17 F hinit (isO_nA' hI.2.1 hq20) dX5_init_22 ?_
  refine q_mi 6 rfl hq20 hI (fun S22 ar22 hI => ?_)
  refine q_aload_n F 0 dX5_init_25 rfl rfl ?_
  refine q_bipush (v := 40) F dX5_init_26 (by decide) ?_
  refine qn_int_40 F ⟨Nat.le_of_ble_eq_true rfl, Nat.le_of_ble_eq_true rfl⟩ dX5_init_28 (fun q28 hq28 => ?_)
  refine qp_X5_20 F hinit (isO_nA' hI.2.1 hq28) dX5_init_30 ?_
  refine q_mi 7 rfl hq28 hI (fun S30 ar30 hI => ?_)
  refine q_aload_n F 0 dX5_init_33 rfl rfl ?_
  refine q_bipush (v := 40) F dX5_init_34 (by decide) ?_
  refine qn_int_40 F ⟨Nat.le_of_ble_eq_true rfl, Nat.le_of_ble_eq_true rfl⟩ dX5_init_36 (fun q36 hq36 => ?_)
  refine qp_X5_23 F hinit (isO_nA' hI.2.1 hq36) dX5_init_38 ?_
  refine q_mi 8 rfl hq36 hI (fun S38 ar38 hI => ?_)
  refine q_aload_n F 0 dX5_init_41 rfl rfl ?_
  refine q_bipush (v := 40) F dX5_init_42 (by decide) ?_
  refine qn_int_40 F ⟨Nat.le_of_ble_eq_true rfl, Nat.le_of_ble_eq_true rfl⟩ dX5_init_44 (fun q44 hq44 => ?_)
  refine qp_X5_26 F hinit (isO_nA' hI.2.1 hq44) dX5_init_46 ?_
  refine q_mi 9 rfl hq44 hI (fun S46 ar46 hI => ?_)
  refine q_aload_n F 0 dX5_init_49 rfl rfl ?_
  refine q_bipush (v := 40) F dX5_init_50 (by decide) ?_
  refine qn_int_40 F ⟨Nat.le_of_ble_eq_true rfl, Nat.le_of_ble_eq_true rfl⟩ dX5_init_52 (fun q52 hq52 => ?_)
  refine qp_X5_29 F hinit (isO_nA' hI.2.1 hq52) dX5_init_54 ?_
  refine q_mi 10 rfl hq52 hI (fun S54 ar54 hI => ?_)
  refine q_aload_n F 0 dX5_init_57 rfl rfl ?_
  refine q_bipush (v := 40) F dX5_init_58 (by decide) ?_
  refine qn_int_40 F ⟨Nat.le_of_ble_eq_true rfl, Nat.le_of_ble_eq_true rfl⟩ dX5_init_60 (fun q60 hq60 => ?_)
  refine qp_X5_32 F hinit (isO_nA' hI.2.1 hq60) dX5_init_62 ?_
  refine q_mi 11 rfl hq60 hI (fun S62 ar62 hI => ?_)
  refine q_aload_n F 0 dX5_init_65 rfl rfl ?_
  refine q_bipush (v := 40) F dX5_init_66 (by decide) ?_
  refine qn_int_40 F ⟨Nat.le_of_ble_eq_true rfl, Nat.le_of_ble_eq_true rfl⟩ dX5_init_68 (fun q68 hq68 => ?_)
  refine qp_X5_35 F hinit (isO_nA' hI.2.1 hq68) dX5_init_70 ?_
  refine q_mi 12 rfl hq68 hI (fun S70 ar70 hI => ?_)
  refine q_aload_n F 0 dX5_init_73 rfl rfl ?_
  refine q_sipush (v := 160) F dX5_init_74 (by decide) ?_
  refine qn_int_160 F ⟨Nat.le_of_ble_eq_true rfl, Nat.le_of_ble_eq_true rfl⟩ dX5_init_77 (fun q77 hq77 => ?_)
  refine qp_X5_38 F hinit (isO_nA' hI.2.1 hq77) dX5_init_79 ?_
  refine q_mi 13 rfl hq77 hI (fun S79 ar79 hI => ?_)
  refine q_aload_n F 0 dX5_init_82 rfl rfl ?_
  refine q_sipush (v := 160) F dX5_init_83 (by decide) ?_
  refine qn_int_160 F ⟨Nat.le_of_ble_eq_true rfl, Nat.le_of_ble_eq_true rfl⟩ dX5_init_86 (fun q86 hq86 => ?_)
  refine qp_X5_41 F hinit (isO_nA' hI.2.1 hq86) dX5_init_88 ?_
  refine q_mi 14 rfl hq86 hI (fun S88 ar88 hI => ?_)
  refine q_aload_n F 0 dX5_init_91 rfl rfl ?_
  refine q_sipush (v := 160) F dX5_init_92 (by decide) ?_
  refine qn_int_160 F ⟨Nat.le_of_ble_eq_true rfl, Nat.le_of_ble_eq_true rfl⟩ dX5_init_95 (fun q95 hq95 => ?_)
  refine qp_X5_44 F hinit (isO_nA' hI.2.1 hq95) dX5_init_97 ?_
  refine q_mi 15 rfl hq95 hI (fun S97 ar97 hI => ?_)
  refine q_aload_n F 0 dX5_init_100 rfl rfl ?_
  refine q_sipush (v := 160) F dX5_init_101 (by decide) ?_
  refine qn_boolean_160 F ⟨Nat.le_of_ble_eq_true rfl, Nat.le_of_ble_eq_true rfl⟩ dX5_init_104 (fun q104 hq104 => ?_)
  refine qp_X5_47 F hinit (isO_nA' hI.2.1 hq104) dX5_init_106 ?_
  refine q_mi 16 rfl hq104 hI (fun S106 ar106 hI => ?_)
  refine q_aload_n F 0 dX5_init_109 rfl rfl ?_
  refine q_bipush (v := 20) F dX5_init_110 (by decide) ?_
  refine qn_int_20 F ⟨Nat.le_of_ble_eq_true rfl, Nat.le_of_ble_eq_true rfl⟩ dX5_init_112 (fun q112 hq112 => ?_)
  have hI := iM_skip hI rfl
  refine qp_X5_51 F hinit (isO_nA' hI.2.1 hq112) dX5_init_114 ?_
  refine q_mi 18 rfl hq112 hI (fun S114 ar114 hI => ?_)
  refine q_aload_n F 0 dX5_init_117 rfl rfl ?_
  refine q_bipush (v := 20) F dX5_init_118 (by decide) ?_
  refine qn_int_20 F ⟨Nat.le_of_ble_eq_true rfl, Nat.le_of_ble_eq_true rfl⟩ dX5_init_120 (fun q120 hq120 => ?_)
  refine qp_X5_54 F hinit (isO_nA' hI.2.1 hq120) dX5_init_122 ?_
  refine q_mi 19 rfl hq120 hI (fun S122 ar122 hI => ?_)
  refine q_aload_n F 0 dX5_init_125 rfl rfl ?_
  refine q_bipush (v := 20) F dX5_init_126 (by decide) ?_
  refine qn_int_20 F ⟨Nat.le_of_ble_eq_true rfl, Nat.le_of_ble_eq_true rfl⟩ dX5_init_128 (fun q128 hq128 => ?_)
  refine qp_X5_57 F hinit (isO_nA' hI.2.1 hq128) dX5_init_130 ?_
  refine q_mi 20 rfl hq128 hI (fun S130 ar130 hI => ?_)
  refine q_aload_n F 0 dX5_init_133 rfl rfl ?_
  refine q_bipush (v := 20) F dX5_init_134 (by decide) ?_
  refine qn_int_20 F ⟨Nat.le_of_ble_eq_true rfl, Nat.le_of_ble_eq_true rfl⟩ dX5_init_136 (fun q136 hq136 => ?_)
  refine qp_X5_60 F hinit (isO_nA' hI.2.1 hq136) dX5_init_138 ?_
  refine q_mi 21 rfl hq136 hI (fun S138 ar138 hI => ?_)
  refine q_aload_n F 0 dX5_init_141 rfl rfl ?_
  refine q_bipush (v := 20) F dX5_init_142 (by decide) ?_
  refine qn_int_20 F ⟨Nat.le_of_ble_eq_true rfl, Nat.le_of_ble_eq_true rfl⟩ dX5_init_144 (fun q144 hq144 => ?_)
  refine qp_X5_63 F hinit (isO_nA' hI.2.1 hq144) dX5_init_146 ?_
  refine q_mi 22 rfl hq144 hI (fun S146 ar146 hI => ?_)
  refine q_aload_n F 0 dX5_init_149 rfl rfl ?_
  refine q_bipush (v := 20) F dX5_init_150 (by decide) ?_
  refine qn_int_20 F ⟨Nat.le_of_ble_eq_true rfl, Nat.le_of_ble_eq_true rfl⟩ dX5_init_152 (fun q152 hq152 => ?_)
  refine qp_X5_66 F hinit (isO_nA' hI.2.1 hq152) dX5_init_154 ?_
  refine q_mi 23 rfl hq152 hI (fun S154 ar154 hI => ?_)
  refine q_aload_n F 0 dX5_init_157 rfl rfl ?_
  refine q_bipush (v := 20) F dX5_init_158 (by decide) ?_
  refine qn_int_20 F ⟨Nat.le_of_ble_eq_true rfl, Nat.le_of_ble_eq_true rfl⟩ dX5_init_160 (fun q160 hq160 => ?_)
  refine qp_X5_69 F hinit (isO_nA' hI.2.1 hq160) dX5_init_162 ?_
  refine q_mi 24 rfl hq160 hI (fun S162 ar162 hI => ?_)
  refine q_aload_n F 0 dX5_init_165 rfl rfl ?_
  refine q_bipush (v := 20) F dX5_init_166 (by decide) ?_
  refine qn_int_20 F ⟨Nat.le_of_ble_eq_true rfl, Nat.le_of_ble_eq_true rfl⟩ dX5_init_168 (fun q168 hq168 => ?_)
  have hI := iM_skip hI rfl
  refine qp_X5_72 F hinit (isO_nA' hI.2.1 hq168) dX5_init_170 ?_
  refine q_mi 26 rfl hq168 hI (fun S170 ar170 hI => ?_)
  refine q_aload_n F 0 dX5_init_173 rfl rfl ?_
  refine q_bipush (v := 20) F dX5_init_174 (by decide) ?_
  refine qn_int_20 F ⟨Nat.le_of_ble_eq_true rfl, Nat.le_of_ble_eq_true rfl⟩ dX5_init_176 (fun q176 hq176 => ?_)
  refine qp_X5_75 F hinit (isO_nA' hI.2.1 hq176) dX5_init_178 ?_
  refine q_mi 27 rfl hq176 hI (fun S178 ar178 hI => ?_)
  refine q_aload_n F 0 dX5_init_181 rfl rfl ?_
  refine q_bipush (v := 20) F dX5_init_182 (by decide) ?_
  refine qn_int_20 F ⟨Nat.le_of_ble_eq_true rfl, Nat.le_of_ble_eq_true rfl⟩ dX5_init_184 (fun q184 hq184 => ?_)
  refine qp_X5_78 F hinit (isO_nA' hI.2.1 hq184) dX5_init_186 ?_
  refine q_mi 28 rfl hq184 hI (fun S186 ar186 hI => ?_)
  refine q_aload_n F 0 dX5_init_189 rfl rfl ?_
  refine q_iconst F dX5_init_190 hc_m1 ?_
  refine qp_X5_81 F hI.2.1 dX5_init_191 ?_
  exact (q_retv F hr dX5_init_194 (Nat.le_of_ble_eq_true rfl) (Nat.le_of_ble_eq_true rfl) ⟨rfl, _, iM_e hI hz⟩)
