set_option maxHeartbeats 4000000 in
set_option maxRecDepth 100000 in
theorem k_setFirstSight {p : Program} {l : Launch} {e : Env} {s : State} {m : MethodId} {args : Array Value} {below : List Frame} {meth : Method} {c : Code} {g : hG} {X0 : va_W} {o : Nat} {f : Nat → Int64} {Q : State → Prop} {S : hS} {cells slots b L h md t : Nat} {xs : Nat → Int32} (F : hF p l s m args meth c cL_law 8 wsL_law RL g) (hst : l.stackTraces = false) (hX : va_X b L xs s s.heap) (hb : b < s.heap.size) (hbA : b < g.2.2) (hL : L < 2 ^ 31) (ht : 8 * t + 8 ≤ L) (hc : cells + 9 ≤ room_1.cells) (hs : slots + 55 ≤ room_1.slots) (hJ : jS S h md) (kk : ∀ (f' : Nat → Int64) (S' : hS), jS S' h md → V p l e room_1 s m args below meth c 8 g (oX g X0 o f') Q S' (cells + 9) (slots + 55) [(0, .ref b), (1, .ref h), (2, .ref md), (3, .ref o), (4, .int (nI (8 * t)))] 1733 []) : V p l e room_1 s m args below meth c 8 g (oX g X0 o f) Q S cells slots [(0, .ref b), (1, .ref h), (2, .ref md), (3, .ref o), (4, .int (nI (8 * t)))] 708 [] := by
  obtain ⟨sc, bk, ca, sa, ad, pa, ar, M, n, nc, ns, hG, hC, hM, hI⟩ := hJ
  have hCz := cC_z hC
  refine q_aload_n F 1 dL_law_708 rfl rfl ?_
  refine q_aload_n F 0 dL_law_709 rfl rfl ?_
  refine q_iload F dL_law_710 rfl ?_
  refine q_iconst F dL_law_712 hc_1 ?_
  refine q_iadd F dL_law_713 ?_
  refine q_sld F hX hb hbA (nI_add (8 * t) 1) (by omega) hL dL_law_714 ?_
  refine q_aload_n F 0 dL_law_715 rfl rfl ?_
  refine q_iload F dL_law_716 rfl ?_
  refine q_iconst F dL_law_718 hc_2 ?_
  refine q_iadd F dL_law_719 ?_
  refine q_sld F hX hb hbA (nI_add (8 * t) 2) (by omega) hL dL_law_720 ?_
  refine q_bz F 728 dL_law_721 rfl dL_law_724 dL_law_725 rfl dL_law_728 ?_
  refine q_aload_n F 3 dL_law_729 rfl rfl ?_
  refine q_callO F (c_L_setFirstSight hst hG hCz (bz_b _)) gL_law_L_setFirstSight rfl hd_L_setFirstSight ⟨Nat.le_of_ble_eq_true rfl, Nat.le_of_ble_eq_true rfl⟩ rfl rfl (Nat.le_of_ble_eq_true rfl) dL_law_730 ⟨Nat.le_trans (lw_b1 (Nat.le_of_ble_eq_true rfl)) hc, Nat.le_trans (lw_b1 (Nat.le_of_ble_eq_true rfl)) hs⟩ (fun r1 f1 S1 hw => ?_)
  refine q_istore F dL_law_733 (by decide) rfl ?_
  have hM1 := mS_cl hM (pw1_cl hw (fun z => by obtain ⟨v, -, -, -, hP⟩ := z; exact hP.2.2))
  refine q_aload_n F 2 dL_law_735 rfl rfl ?_
  refine q_aload_n F 0 dL_law_736 rfl rfl ?_
  refine q_iload F dL_law_737 rfl ?_
  refine q_iconst F dL_law_739 hc_1 ?_
  refine q_iadd F dL_law_740 ?_
  refine q_sld F hX hb hbA (nI_add (8 * t) 1) (by omega) hL dL_law_741 ?_
  refine q_aload_n F 0 dL_law_742 rfl rfl ?_
  refine q_iload F dL_law_743 rfl ?_
  refine q_iconst F dL_law_745 hc_2 ?_
  refine q_iadd F dL_law_746 ?_
  refine q_sld F hX hb hbA (nI_add (8 * t) 2) (by omega) hL dL_law_747 ?_
  refine q_bz F 755 dL_law_748 rfl dL_law_751 dL_law_752 rfl dL_law_755 ?_
  refine q_callV_gi F (c_X5_setFirstSight hM1 (bz_b _)) gL_law_X5_setFirstSight rfl hd_X5_setFirstSight ⟨Nat.le_of_ble_eq_true rfl, Nat.le_of_ble_eq_true rfl⟩ hM1.1.1 rfl rfl rfl (Nat.le_of_ble_eq_true rfl) dL_law_756 ⟨Nat.le_trans (lw_b2 (Nat.le_of_ble_eq_true rfl)) hc, Nat.le_trans (lw_b2 (Nat.le_of_ble_eq_true rfl)) hs⟩ (fun x2 S2 hp => ?_)
  have hT := j_setFirstSight hG hCz (bz_b _) hI hw hp
  refine q_istore F dL_law_759 (by decide) rfl ?_
  obtain ⟨hJ2, ⟨sc2, M2, hM2, hr2⟩, ha2⟩ := hT
  refine q_aload_n F 2 dL_law_761 rfl rfl ?_
  refine q_callV_i F (c_X5_thrown hM2) gL_law_X5_thrown rfl hd_X5_thrown ⟨Nat.le_of_ble_eq_true rfl, Nat.le_of_ble_eq_true rfl⟩ hM2.1.1 rfl rfl rfl (Nat.le_of_ble_eq_true rfl) dL_law_762 ⟨Nat.le_trans (lw_b3 (Nat.le_of_ble_eq_true rfl)) hc, Nat.le_trans (lw_b3 (Nat.le_of_ble_eq_true rfl)) hs⟩ ?_
  refine q_iload F dL_law_765 rfl ?_
  refine q_icmp_eq F 772 dL_law_767 rfl (fun c1 => ?_) (fun c1 => absurd hr2 c1)
  refine q_iload F dL_law_772 rfl ?_
  refine q_if_ne F 789 dL_law_774 rfl (fun c2 => ?_) (fun c2 => ?_)
  · skip
    refine q_goto F 1733 dL_law_789 rfl ?_
    exact q_widen (lw_b3 (Nat.le_of_ble_eq_true rfl)) (lw_b3 (Nat.le_of_ble_eq_true rfl)) (q_to (kk _ _ hJ2) ⟨rfl, rfl, rfl, rfl, rfl, trivial⟩)
  refine q_aload_n F 3 dL_law_777 rfl rfl ?_
  refine q_iconst F dL_law_778 hc_0 ?_
  refine q_lald F dL_law_779 ?_
  refine q_iload F dL_law_780 rfl ?_
  refine q_i2l F dL_law_782 ?_
  refine q_lcmp F (ha2 c2) dL_law_783 ?_
  refine q_if_eq F 789 dL_law_784 rfl (fun c4 => ?_) (fun c4 => absurd rfl c4)
  refine q_goto F 1733 dL_law_789 rfl ?_
  exact q_widen (lw_b3 (Nat.le_of_ble_eq_true rfl)) (lw_b3 (Nat.le_of_ble_eq_true rfl)) (q_to (kk _ _ hJ2) ⟨rfl, rfl, rfl, rfl, rfl, trivial⟩)

set_option maxHeartbeats 4000000 in
set_option maxRecDepth 100000 in
theorem k_confirm {p : Program} {l : Launch} {e : Env} {s : State} {m : MethodId} {args : Array Value} {below : List Frame} {meth : Method} {c : Code} {g : hG} {X0 : va_W} {o : Nat} {f : Nat → Int64} {Q : State → Prop} {S : hS} {cells slots b L h md t : Nat} {xs : Nat → Int32} (F : hF p l s m args meth c cL_law 8 wsL_law RL g) (hst : l.stackTraces = false) (hX : va_X b L xs s s.heap) (hb : b < s.heap.size) (hbA : b < g.2.2) (hL : L < 2 ^ 31) (ht : 8 * t + 8 ≤ L) (hc : cells + 9 ≤ room_1.cells) (hs : slots + 55 ≤ room_1.slots) (hJ : jS S h md) (kk : ∀ (f' : Nat → Int64) (S' : hS), jS S' h md → V p l e room_1 s m args below meth c 8 g (oX g X0 o f') Q S' (cells + 9) (slots + 55) [(0, .ref b), (1, .ref h), (2, .ref md), (3, .ref o), (4, .int (nI (8 * t)))] 1733 []) : V p l e room_1 s m args below meth c 8 g (oX g X0 o f) Q S cells slots [(0, .ref b), (1, .ref h), (2, .ref md), (3, .ref o), (4, .int (nI (8 * t)))] 884 [] := by
  obtain ⟨sc, bk, ca, sa, ad, pa, ar, M, n, nc, ns, hG, hC, hM, hI⟩ := hJ
  have hCz := cC_z hC
  refine q_aload_n F 1 dL_law_884 rfl rfl ?_
  refine q_aload_n F 3 dL_law_885 rfl rfl ?_
  refine q_callO F (c_L_confirm hst hG hCz (jI_up hI (by decide)).2.1) gL_law_L_confirm rfl hd_L_confirm ⟨Nat.le_of_ble_eq_true rfl, Nat.le_of_ble_eq_true rfl⟩ rfl rfl (Nat.le_of_ble_eq_true rfl) dL_law_886 ⟨Nat.le_trans (lw_b1 (Nat.le_of_ble_eq_true rfl)) hc, Nat.le_trans (lw_b1 (Nat.le_of_ble_eq_true rfl)) hs⟩ (fun r1 f1 S1 hw => ?_)
  refine q_istore F dL_law_889 (by decide) rfl ?_
  have hM1 := mS_cl hM (pw1_cl hw (fun z => by obtain ⟨v, -, -, -, hP⟩ := z; exact hP.2.2))
  refine q_aload_n F 2 dL_law_891 rfl rfl ?_
  refine q_callV_gi F (c_X5_confirm hM1 hC.1.2.1 hC.1.2.2) gL_law_X5_confirm rfl hd_X5_confirm ⟨Nat.le_of_ble_eq_true rfl, Nat.le_of_ble_eq_true rfl⟩ hM1.1.1 rfl rfl rfl (Nat.le_of_ble_eq_true rfl) dL_law_892 ⟨Nat.le_trans (lw_b2 (Nat.le_of_ble_eq_true rfl)) hc, Nat.le_trans (lw_b2 (Nat.le_of_ble_eq_true rfl)) hs⟩ (fun x2 S2 hp => ?_)
  have hT := j_confirm hG hCz hI.2.1 hI hw hp
  refine q_istore F dL_law_895 (by decide) rfl ?_
  obtain ⟨hJ2, ⟨sc2, M2, hM2, hr2⟩, ha2⟩ := hT
  refine q_aload_n F 2 dL_law_897 rfl rfl ?_
  refine q_callV_i F (c_X5_thrown hM2) gL_law_X5_thrown rfl hd_X5_thrown ⟨Nat.le_of_ble_eq_true rfl, Nat.le_of_ble_eq_true rfl⟩ hM2.1.1 rfl rfl rfl (Nat.le_of_ble_eq_true rfl) dL_law_898 ⟨Nat.le_trans (lw_b3 (Nat.le_of_ble_eq_true rfl)) hc, Nat.le_trans (lw_b3 (Nat.le_of_ble_eq_true rfl)) hs⟩ ?_
  refine q_iload F dL_law_901 rfl ?_
  refine q_icmp_eq F 908 dL_law_903 rfl (fun c1 => ?_) (fun c1 => absurd hr2 c1)
  refine q_iload F dL_law_908 rfl ?_
  refine q_if_ne F 925 dL_law_910 rfl (fun c2 => ?_) (fun c2 => ?_)
  · skip
    refine q_goto F 1733 dL_law_925 rfl ?_
    exact q_widen (lw_b3 (Nat.le_of_ble_eq_true rfl)) (lw_b3 (Nat.le_of_ble_eq_true rfl)) (q_to (kk _ _ hJ2) ⟨rfl, rfl, rfl, rfl, rfl, trivial⟩)
  refine q_aload_n F 3 dL_law_913 rfl rfl ?_
  refine q_iconst F dL_law_914 hc_0 ?_
  refine q_lald F dL_law_915 ?_
  refine q_iload F dL_law_916 rfl ?_
  refine q_i2l F dL_law_918 ?_
  refine q_lcmp F (ha2 c2) dL_law_919 ?_
  refine q_if_eq F 925 dL_law_920 rfl (fun c4 => ?_) (fun c4 => absurd rfl c4)
  refine q_goto F 1733 dL_law_925 rfl ?_
  exact q_widen (lw_b3 (Nat.le_of_ble_eq_true rfl)) (lw_b3 (Nat.le_of_ble_eq_true rfl)) (q_to (kk _ _ hJ2) ⟨rfl, rfl, rfl, rfl, rfl, trivial⟩)

set_option maxHeartbeats 4000000 in
set_option maxRecDepth 100000 in
theorem k_turn {p : Program} {l : Launch} {e : Env} {s : State} {m : MethodId} {args : Array Value} {below : List Frame} {meth : Method} {c : Code} {g : hG} {X0 : va_W} {o : Nat} {f : Nat → Int64} {Q : State → Prop} {S : hS} {cells slots b L h md t : Nat} {xs : Nat → Int32} (F : hF p l s m args meth c cL_law 8 wsL_law RL g) (hst : l.stackTraces = false) (hX : va_X b L xs s s.heap) (hb : b < s.heap.size) (hbA : b < g.2.2) (hL : L < 2 ^ 31) (ht : 8 * t + 8 ≤ L) (hc : cells + 9 ≤ room_1.cells) (hs : slots + 55 ≤ room_1.slots) (hJ : jS S h md) (kk : ∀ (f' : Nat → Int64) (S' : hS), jS S' h md → V p l e room_1 s m args below meth c 8 g (oX g X0 o f') Q S' (cells + 9) (slots + 55) [(0, .ref b), (1, .ref h), (2, .ref md), (3, .ref o), (4, .int (nI (8 * t)))] 1733 []) : V p l e room_1 s m args below meth c 8 g (oX g X0 o f) Q S cells slots [(0, .ref b), (1, .ref h), (2, .ref md), (3, .ref o), (4, .int (nI (8 * t)))] 928 [] := by
  obtain ⟨sc, bk, ca, sa, ad, pa, ar, M, n, nc, ns, hG, hC, hM, hI⟩ := hJ
  have hCz := cC_z hC
  refine q_aload_n F 1 dL_law_928 rfl rfl ?_
  refine q_aload_n F 0 dL_law_929 rfl rfl ?_
  refine q_iload F dL_law_930 rfl ?_
  refine q_iconst F dL_law_932 hc_1 ?_
  refine q_iadd F dL_law_933 ?_
  refine q_sld F hX hb hbA (nI_add (8 * t) 1) (by omega) hL dL_law_934 ?_
  refine q_aload_n F 0 dL_law_935 rfl rfl ?_
  refine q_iload F dL_law_936 rfl ?_
  refine q_iconst F dL_law_938 hc_2 ?_
  refine q_iadd F dL_law_939 ?_
  refine q_sld F hX hb hbA (nI_add (8 * t) 2) (by omega) hL dL_law_940 ?_
  refine q_aload_n F 0 dL_law_941 rfl rfl ?_
  refine q_iload F dL_law_942 rfl ?_
  refine q_iconst F dL_law_944 hc_3 ?_
  refine q_iadd F dL_law_945 ?_
  refine q_sld F hX hb hbA (nI_add (8 * t) 3) (by omega) hL dL_law_946 ?_
  refine q_aload_n F 0 dL_law_947 rfl rfl ?_
  refine q_iload F dL_law_948 rfl ?_
  refine q_iconst F dL_law_950 hc_4 ?_
  refine q_iadd F dL_law_951 ?_
  refine q_sld F hX hb hbA (nI_add (8 * t) 4) (by omega) hL dL_law_952 ?_
  refine q_aload_n F 0 dL_law_953 rfl rfl ?_
  refine q_iload F dL_law_954 rfl ?_
  refine q_iconst F dL_law_956 hc_5 ?_
  refine q_iadd F dL_law_957 ?_
  refine q_sld F hX hb hbA (nI_add (8 * t) 5) (by omega) hL dL_law_958 ?_
  refine q_aload_n F 3 dL_law_959 rfl rfl ?_
  refine q_callO F (c_L_turn hst hG hCz) gL_law_L_turn rfl hd_L_turn ⟨Nat.le_of_ble_eq_true rfl, Nat.le_of_ble_eq_true rfl⟩ rfl rfl (Nat.le_of_ble_eq_true rfl) dL_law_960 ⟨Nat.le_trans (lw_b1 (Nat.le_of_ble_eq_true rfl)) hc, Nat.le_trans (lw_b1 (Nat.le_of_ble_eq_true rfl)) hs⟩ (fun r1 f1 S1 hw => ?_)
  refine q_istore F dL_law_963 (by decide) rfl ?_
  have hM1 := mS_cl hM (pw2_cl hw (fun z => by obtain ⟨v, -, -, -, hP⟩ := z; exact hP.2.2))
  rw [jb_none (ns := ns) (jI_key hI)] at hw
  rw [jb_none (ns := ns) (jI_key hI)] at hw
  refine q_aload_n F 2 dL_law_965 rfl rfl ?_
  refine q_aload_n F 0 dL_law_966 rfl rfl ?_
  refine q_iload F dL_law_967 rfl ?_
  refine q_iconst F dL_law_969 hc_1 ?_
  refine q_iadd F dL_law_970 ?_
  refine q_sld F hX hb hbA (nI_add (8 * t) 1) (by omega) hL dL_law_971 ?_
  refine q_aload_n F 0 dL_law_972 rfl rfl ?_
  refine q_iload F dL_law_973 rfl ?_
  refine q_iconst F dL_law_975 hc_2 ?_
  refine q_iadd F dL_law_976 ?_
  refine q_sld F hX hb hbA (nI_add (8 * t) 2) (by omega) hL dL_law_977 ?_
  refine q_aload_n F 0 dL_law_978 rfl rfl ?_
  refine q_iload F dL_law_979 rfl ?_
  refine q_iconst F dL_law_981 hc_3 ?_
  refine q_iadd F dL_law_982 ?_
  refine q_sld F hX hb hbA (nI_add (8 * t) 3) (by omega) hL dL_law_983 ?_
  refine q_aload_n F 0 dL_law_984 rfl rfl ?_
  refine q_iload F dL_law_985 rfl ?_
  refine q_iconst F dL_law_987 hc_4 ?_
  refine q_iadd F dL_law_988 ?_
  refine q_sld F hX hb hbA (nI_add (8 * t) 4) (by omega) hL dL_law_989 ?_
  refine q_aload_n F 0 dL_law_990 rfl rfl ?_
  refine q_iload F dL_law_991 rfl ?_
  refine q_iconst F dL_law_993 hc_5 ?_
  refine q_iadd F dL_law_994 ?_
  refine q_sld F hX hb hbA (nI_add (8 * t) 5) (by omega) hL dL_law_995 ?_
  refine q_callV_gi F (c_X5_turn hM1 hC.1.2.1 hC.1.2.2 (cC_sz hC) hC.2.2.2.1.2.1 hC.2.2.2.1.2.2 hI.2.2) gL_law_X5_turn rfl hd_X5_turn ⟨Nat.le_of_ble_eq_true rfl, Nat.le_of_ble_eq_true rfl⟩ hM1.1.1 rfl rfl rfl (Nat.le_of_ble_eq_true rfl) dL_law_996 ⟨Nat.le_trans (lw_b2 (Nat.le_of_ble_eq_true rfl)) hc, Nat.le_trans (lw_b2 (Nat.le_of_ble_eq_true rfl)) hs⟩ (fun x2 S2 hp => ?_)
  have hT := j_turn hG hCz hI hw hp
  refine q_istore F dL_law_999 (by decide) rfl ?_
  obtain ⟨hJ2, ⟨sc2, M2, hM2, hr2⟩, ha2⟩ := hT
  refine q_aload_n F 2 dL_law_1001 rfl rfl ?_
  refine q_callV_i F (c_X5_thrown hM2) gL_law_X5_thrown rfl hd_X5_thrown ⟨Nat.le_of_ble_eq_true rfl, Nat.le_of_ble_eq_true rfl⟩ hM2.1.1 rfl rfl rfl (Nat.le_of_ble_eq_true rfl) dL_law_1002 ⟨Nat.le_trans (lw_b3 (Nat.le_of_ble_eq_true rfl)) hc, Nat.le_trans (lw_b3 (Nat.le_of_ble_eq_true rfl)) hs⟩ ?_
  refine q_iload F dL_law_1005 rfl ?_
  refine q_icmp_eq F 1012 dL_law_1007 rfl (fun c1 => ?_) (fun c1 => absurd hr2 c1)
  refine q_iload F dL_law_1012 rfl ?_
  refine q_if_ne F 1029 dL_law_1014 rfl (fun c2 => ?_) (fun c2 => ?_)
  · skip
    refine q_goto F 1733 dL_law_1029 rfl ?_
    exact q_widen (lw_b3 (Nat.le_of_ble_eq_true rfl)) (lw_b3 (Nat.le_of_ble_eq_true rfl)) (q_to (kk _ _ hJ2) ⟨rfl, rfl, rfl, rfl, rfl, trivial⟩)
  refine q_aload_n F 3 dL_law_1017 rfl rfl ?_
  refine q_iconst F dL_law_1018 hc_0 ?_
  refine q_lald F dL_law_1019 ?_
  refine q_iload F dL_law_1020 rfl ?_
  refine q_i2l F dL_law_1022 ?_
  refine q_lcmp F (ha2 c2) dL_law_1023 ?_
  refine q_if_eq F 1029 dL_law_1024 rfl (fun c4 => ?_) (fun c4 => absurd rfl c4)
  refine q_goto F 1733 dL_law_1029 rfl ?_
  exact q_widen (lw_b3 (Nat.le_of_ble_eq_true rfl)) (lw_b3 (Nat.le_of_ble_eq_true rfl)) (q_to (kk _ _ hJ2) ⟨rfl, rfl, rfl, rfl, rfl, trivial⟩)

set_option maxHeartbeats 4000000 in
set_option maxRecDepth 100000 in
theorem k_pass {p : Program} {l : Launch} {e : Env} {s : State} {m : MethodId} {args : Array Value} {below : List Frame} {meth : Method} {c : Code} {g : hG} {X0 : va_W} {o : Nat} {f : Nat → Int64} {Q : State → Prop} {S : hS} {cells slots b L h md t : Nat} {xs : Nat → Int32} (F : hF p l s m args meth c cL_law 8 wsL_law RL g) (hst : l.stackTraces = false) (hX : va_X b L xs s s.heap) (hb : b < s.heap.size) (hbA : b < g.2.2) (hL : L < 2 ^ 31) (ht : 8 * t + 8 ≤ L) (hc : cells + 9 ≤ room_1.cells) (hs : slots + 55 ≤ room_1.slots) (hJ : jS S h md) (kk : ∀ (f' : Nat → Int64) (S' : hS), jS S' h md → V p l e room_1 s m args below meth c 8 g (oX g X0 o f') Q S' (cells + 9) (slots + 55) [(0, .ref b), (1, .ref h), (2, .ref md), (3, .ref o), (4, .int (nI (8 * t)))] 1733 []) : V p l e room_1 s m args below meth c 8 g (oX g X0 o f) Q S cells slots [(0, .ref b), (1, .ref h), (2, .ref md), (3, .ref o), (4, .int (nI (8 * t)))] 1032 [] := by
  obtain ⟨sc, bk, ca, sa, ad, pa, ar, M, n, nc, ns, hG, hC, hM, hI⟩ := hJ
  have hCz := cC_z hC
  refine q_aload_n F 1 dL_law_1032 rfl rfl ?_
  refine q_aload_n F 0 dL_law_1033 rfl rfl ?_
  refine q_iload F dL_law_1034 rfl ?_
  refine q_iconst F dL_law_1036 hc_1 ?_
  refine q_iadd F dL_law_1037 ?_
  refine q_sld F hX hb hbA (nI_add (8 * t) 1) (by omega) hL dL_law_1038 ?_
  refine q_aload_n F 3 dL_law_1039 rfl rfl ?_
  refine q_callO F (c_L_pass hst hG hCz) gL_law_L_pass rfl hd_L_pass ⟨Nat.le_of_ble_eq_true rfl, Nat.le_of_ble_eq_true rfl⟩ rfl rfl (Nat.le_of_ble_eq_true rfl) dL_law_1040 ⟨Nat.le_trans (lw_b1 (Nat.le_of_ble_eq_true rfl)) hc, Nat.le_trans (lw_b1 (Nat.le_of_ble_eq_true rfl)) hs⟩ (fun r1 f1 S1 hw => ?_)
  refine q_istore F dL_law_1043 (by decide) rfl ?_
  have hM1 := mS_cl hM (pw2_cl hw (fun z => by obtain ⟨v, -, -, -, hP⟩ := z; exact hP.2.2))
  refine q_aload_n F 2 dL_law_1045 rfl rfl ?_
  refine q_aload_n F 0 dL_law_1046 rfl rfl ?_
  refine q_iload F dL_law_1047 rfl ?_
  refine q_iconst F dL_law_1049 hc_1 ?_
  refine q_iadd F dL_law_1050 ?_
  refine q_sld F hX hb hbA (nI_add (8 * t) 1) (by omega) hL dL_law_1051 ?_
  refine q_callV_gi F (c_X5_pass hM1) gL_law_X5_pass rfl hd_X5_pass ⟨Nat.le_of_ble_eq_true rfl, Nat.le_of_ble_eq_true rfl⟩ hM1.1.1 rfl rfl rfl (Nat.le_of_ble_eq_true rfl) dL_law_1052 ⟨Nat.le_trans (lw_b2 (Nat.le_of_ble_eq_true rfl)) hc, Nat.le_trans (lw_b2 (Nat.le_of_ble_eq_true rfl)) hs⟩ (fun x2 S2 hp => ?_)
  have hT := j_pass hG hCz hI hw hp
  refine q_istore F dL_law_1055 (by decide) rfl ?_
  obtain ⟨hJ2, ⟨sc2, M2, hM2, hr2⟩, ha2⟩ := hT
  refine q_aload_n F 2 dL_law_1057 rfl rfl ?_
  refine q_callV_i F (c_X5_thrown hM2) gL_law_X5_thrown rfl hd_X5_thrown ⟨Nat.le_of_ble_eq_true rfl, Nat.le_of_ble_eq_true rfl⟩ hM2.1.1 rfl rfl rfl (Nat.le_of_ble_eq_true rfl) dL_law_1058 ⟨Nat.le_trans (lw_b3 (Nat.le_of_ble_eq_true rfl)) hc, Nat.le_trans (lw_b3 (Nat.le_of_ble_eq_true rfl)) hs⟩ ?_
  refine q_iload F dL_law_1061 rfl ?_
  refine q_icmp_eq F 1068 dL_law_1063 rfl (fun c1 => ?_) (fun c1 => absurd hr2 c1)
  refine q_iload F dL_law_1068 rfl ?_
  refine q_if_ne F 1085 dL_law_1070 rfl (fun c2 => ?_) (fun c2 => ?_)
  · skip
    refine q_goto F 1733 dL_law_1085 rfl ?_
    exact q_widen (lw_b3 (Nat.le_of_ble_eq_true rfl)) (lw_b3 (Nat.le_of_ble_eq_true rfl)) (q_to (kk _ _ hJ2) ⟨rfl, rfl, rfl, rfl, rfl, trivial⟩)
  refine q_aload_n F 3 dL_law_1073 rfl rfl ?_
  refine q_iconst F dL_law_1074 hc_0 ?_
  refine q_lald F dL_law_1075 ?_
  refine q_iload F dL_law_1076 rfl ?_
  refine q_i2l F dL_law_1078 ?_
  refine q_lcmp F (ha2 c2) dL_law_1079 ?_
  refine q_if_eq F 1085 dL_law_1080 rfl (fun c4 => ?_) (fun c4 => absurd rfl c4)
  refine q_goto F 1733 dL_law_1085 rfl ?_
  exact q_widen (lw_b3 (Nat.le_of_ble_eq_true rfl)) (lw_b3 (Nat.le_of_ble_eq_true rfl)) (q_to (kk _ _ hJ2) ⟨rfl, rfl, rfl, rfl, rfl, trivial⟩)

set_option maxHeartbeats 4000000 in
set_option maxRecDepth 100000 in
theorem k_clean {p : Program} {l : Launch} {e : Env} {s : State} {m : MethodId} {args : Array Value} {below : List Frame} {meth : Method} {c : Code} {g : hG} {X0 : va_W} {o : Nat} {f : Nat → Int64} {Q : State → Prop} {S : hS} {cells slots b L h md t : Nat} {xs : Nat → Int32} (F : hF p l s m args meth c cL_law 8 wsL_law RL g) (hst : l.stackTraces = false) (hX : va_X b L xs s s.heap) (hb : b < s.heap.size) (hbA : b < g.2.2) (hL : L < 2 ^ 31) (ht : 8 * t + 8 ≤ L) (hc : cells + 9 ≤ room_1.cells) (hs : slots + 55 ≤ room_1.slots) (hJ : jS S h md) (kk : ∀ (f' : Nat → Int64) (S' : hS), jS S' h md → V p l e room_1 s m args below meth c 8 g (oX g X0 o f') Q S' (cells + 9) (slots + 55) [(0, .ref b), (1, .ref h), (2, .ref md), (3, .ref o), (4, .int (nI (8 * t)))] 1733 []) : V p l e room_1 s m args below meth c 8 g (oX g X0 o f) Q S cells slots [(0, .ref b), (1, .ref h), (2, .ref md), (3, .ref o), (4, .int (nI (8 * t)))] 1088 [] := by
  obtain ⟨sc, bk, ca, sa, ad, pa, ar, M, n, nc, ns, hG, hC, hM, hI⟩ := hJ
  have hCz := cC_z hC
  refine q_aload_n F 1 dL_law_1088 rfl rfl ?_
  refine q_aload_n F 0 dL_law_1089 rfl rfl ?_
  refine q_iload F dL_law_1090 rfl ?_
  refine q_iconst F dL_law_1092 hc_1 ?_
  refine q_iadd F dL_law_1093 ?_
  refine q_sld F hX hb hbA (nI_add (8 * t) 1) (by omega) hL dL_law_1094 ?_
  refine q_aload_n F 3 dL_law_1095 rfl rfl ?_
  refine q_callO F (c_L_clean hst hG hCz) gL_law_L_clean rfl hd_L_clean ⟨Nat.le_of_ble_eq_true rfl, Nat.le_of_ble_eq_true rfl⟩ rfl rfl (Nat.le_of_ble_eq_true rfl) dL_law_1096 ⟨Nat.le_trans (lw_b1 (Nat.le_of_ble_eq_true rfl)) hc, Nat.le_trans (lw_b1 (Nat.le_of_ble_eq_true rfl)) hs⟩ (fun r1 f1 S1 hw => ?_)
  refine q_istore F dL_law_1099 (by decide) rfl ?_
  have hM1 := mS_cl hM (pw1_cl hw (fun z => by obtain ⟨v, -, -, -, ad1, hP⟩ := z; exact hP.2.2))
  refine q_aload_n F 2 dL_law_1101 rfl rfl ?_
  refine q_aload_n F 0 dL_law_1102 rfl rfl ?_
  refine q_iload F dL_law_1103 rfl ?_
  refine q_iconst F dL_law_1105 hc_1 ?_
  refine q_iadd F dL_law_1106 ?_
  refine q_sld F hX hb hbA (nI_add (8 * t) 1) (by omega) hL dL_law_1107 ?_
  refine q_callV_gi F (c_X5_clean hM1 hC.1.2.1 hC.1.2.2 hI.2.2) gL_law_X5_clean rfl hd_X5_clean ⟨Nat.le_of_ble_eq_true rfl, Nat.le_of_ble_eq_true rfl⟩ hM1.1.1 rfl rfl rfl (Nat.le_of_ble_eq_true rfl) dL_law_1108 ⟨Nat.le_trans (lw_b2 (Nat.le_of_ble_eq_true rfl)) hc, Nat.le_trans (lw_b2 (Nat.le_of_ble_eq_true rfl)) hs⟩ (fun x2 S2 hp => ?_)
  have hT := j_clean hG hCz hI hw hp
  refine q_istore F dL_law_1111 (by decide) rfl ?_
  obtain ⟨hJ2, ⟨sc2, M2, hM2, hr2⟩, ha2⟩ := hT
  refine q_aload_n F 2 dL_law_1113 rfl rfl ?_
  refine q_callV_i F (c_X5_thrown hM2) gL_law_X5_thrown rfl hd_X5_thrown ⟨Nat.le_of_ble_eq_true rfl, Nat.le_of_ble_eq_true rfl⟩ hM2.1.1 rfl rfl rfl (Nat.le_of_ble_eq_true rfl) dL_law_1114 ⟨Nat.le_trans (lw_b3 (Nat.le_of_ble_eq_true rfl)) hc, Nat.le_trans (lw_b3 (Nat.le_of_ble_eq_true rfl)) hs⟩ ?_
  refine q_iload F dL_law_1117 rfl ?_
  refine q_icmp_eq F 1124 dL_law_1119 rfl (fun c1 => ?_) (fun c1 => absurd hr2 c1)
  refine q_iload F dL_law_1124 rfl ?_
  refine q_if_ne F 1141 dL_law_1126 rfl (fun c2 => ?_) (fun c2 => ?_)
  · skip
    refine q_goto F 1733 dL_law_1141 rfl ?_
    exact q_widen (lw_b3 (Nat.le_of_ble_eq_true rfl)) (lw_b3 (Nat.le_of_ble_eq_true rfl)) (q_to (kk _ _ hJ2) ⟨rfl, rfl, rfl, rfl, rfl, trivial⟩)
  refine q_aload_n F 3 dL_law_1129 rfl rfl ?_
  refine q_iconst F dL_law_1130 hc_0 ?_
  refine q_lald F dL_law_1131 ?_
  refine q_iload F dL_law_1132 rfl ?_
  refine q_i2l F dL_law_1134 ?_
  refine q_lcmp F (ha2 c2) dL_law_1135 ?_
  refine q_if_eq F 1141 dL_law_1136 rfl (fun c4 => ?_) (fun c4 => absurd rfl c4)
  refine q_goto F 1733 dL_law_1141 rfl ?_
  exact q_widen (lw_b3 (Nat.le_of_ble_eq_true rfl)) (lw_b3 (Nat.le_of_ble_eq_true rfl)) (q_to (kk _ _ hJ2) ⟨rfl, rfl, rfl, rfl, rfl, trivial⟩)

set_option maxHeartbeats 4000000 in
set_option maxRecDepth 100000 in
theorem k_judgeByReading {p : Program} {l : Launch} {e : Env} {s : State} {m : MethodId} {args : Array Value} {below : List Frame} {meth : Method} {c : Code} {g : hG} {X0 : va_W} {o : Nat} {f : Nat → Int64} {Q : State → Prop} {S : hS} {cells slots b L h md t : Nat} {xs : Nat → Int32} (F : hF p l s m args meth c cL_law 8 wsL_law RL g) (hst : l.stackTraces = false) (hX : va_X b L xs s s.heap) (hb : b < s.heap.size) (hbA : b < g.2.2) (hL : L < 2 ^ 31) (ht : 8 * t + 8 ≤ L) (hc : cells + 9 ≤ room_1.cells) (hs : slots + 55 ≤ room_1.slots) (hJ : jS S h md) (kk : ∀ (f' : Nat → Int64) (S' : hS), jS S' h md → V p l e room_1 s m args below meth c 8 g (oX g X0 o f') Q S' (cells + 9) (slots + 55) [(0, .ref b), (1, .ref h), (2, .ref md), (3, .ref o), (4, .int (nI (8 * t)))] 1733 []) : V p l e room_1 s m args below meth c 8 g (oX g X0 o f) Q S cells slots [(0, .ref b), (1, .ref h), (2, .ref md), (3, .ref o), (4, .int (nI (8 * t)))] 1236 [] := by
  obtain ⟨sc, bk, ca, sa, ad, pa, ar, M, n, nc, ns, hG, hC, hM, hI⟩ := hJ
  have hCz := cC_z hC
  refine q_aload_n F 1 dL_law_1236 rfl rfl ?_
  refine q_aload_n F 0 dL_law_1237 rfl rfl ?_
  refine q_iload F dL_law_1238 rfl ?_
  refine q_iconst F dL_law_1240 hc_1 ?_
  refine q_iadd F dL_law_1241 ?_
  refine q_sld F hX hb hbA (nI_add (8 * t) 1) (by omega) hL dL_law_1242 ?_
  refine q_aload_n F 0 dL_law_1243 rfl rfl ?_
  refine q_iload F dL_law_1244 rfl ?_
  refine q_iconst F dL_law_1246 hc_2 ?_
  refine q_iadd F dL_law_1247 ?_
  refine q_sld F hX hb hbA (nI_add (8 * t) 2) (by omega) hL dL_law_1248 ?_
  refine q_aload_n F 0 dL_law_1249 rfl rfl ?_
  refine q_iload F dL_law_1250 rfl ?_
  refine q_iconst F dL_law_1252 hc_3 ?_
  refine q_iadd F dL_law_1253 ?_
  refine q_sld F hX hb hbA (nI_add (8 * t) 3) (by omega) hL dL_law_1254 ?_
  refine q_aload_n F 3 dL_law_1255 rfl rfl ?_
  refine q_callO F (c_L_judgeByReading hst hG hCz) gL_law_L_judgeByReading rfl hd_L_judgeByReading ⟨Nat.le_of_ble_eq_true rfl, Nat.le_of_ble_eq_true rfl⟩ rfl rfl (Nat.le_of_ble_eq_true rfl) dL_law_1256 ⟨Nat.le_trans (lw_b1 (Nat.le_of_ble_eq_true rfl)) hc, Nat.le_trans (lw_b1 (Nat.le_of_ble_eq_true rfl)) hs⟩ (fun r1 f1 S1 hw => ?_)
  refine q_istore F dL_law_1259 (by decide) rfl ?_
  have hM1 := mS_cl hM (pw1_cl hw (fun z => by obtain ⟨v, -, -, rfl, -⟩ := z; exact clF.rf _))
  rw [jb_none (ns := ns) (jI_key hI)] at hw
  refine q_aload_n F 2 dL_law_1261 rfl rfl ?_
  refine q_aload_n F 0 dL_law_1262 rfl rfl ?_
  refine q_iload F dL_law_1263 rfl ?_
  refine q_iconst F dL_law_1265 hc_1 ?_
  refine q_iadd F dL_law_1266 ?_
  refine q_sld F hX hb hbA (nI_add (8 * t) 1) (by omega) hL dL_law_1267 ?_
  refine q_aload_n F 0 dL_law_1268 rfl rfl ?_
  refine q_iload F dL_law_1269 rfl ?_
  refine q_iconst F dL_law_1271 hc_2 ?_
  refine q_iadd F dL_law_1272 ?_
  refine q_sld F hX hb hbA (nI_add (8 * t) 2) (by omega) hL dL_law_1273 ?_
  refine q_aload_n F 0 dL_law_1274 rfl rfl ?_
  refine q_iload F dL_law_1275 rfl ?_
  refine q_iconst F dL_law_1277 hc_3 ?_
  refine q_iadd F dL_law_1278 ?_
  refine q_sld F hX hb hbA (nI_add (8 * t) 3) (by omega) hL dL_law_1279 ?_
  refine q_callV_gi F (c_X5_judgeByReading hM1 hC.1.2.1 hC.1.2.2 (cC_sz hC) hC.2.2.2.1.2.1 hC.2.2.2.1.2.2) gL_law_X5_judgeByReading rfl hd_X5_judgeByReading ⟨Nat.le_of_ble_eq_true rfl, Nat.le_of_ble_eq_true rfl⟩ hM1.1.1 rfl rfl rfl (Nat.le_of_ble_eq_true rfl) dL_law_1280 ⟨Nat.le_trans (lw_b2 (Nat.le_of_ble_eq_true rfl)) hc, Nat.le_trans (lw_b2 (Nat.le_of_ble_eq_true rfl)) hs⟩ (fun x2 S2 hp => ?_)
  have hT := j_judgeByReading hG hCz hI hw hp
  refine q_istore F dL_law_1283 (by decide) rfl ?_
  obtain ⟨hJ2, ⟨sc2, M2, hM2, hr2⟩, ha2⟩ := hT
  refine q_aload_n F 2 dL_law_1285 rfl rfl ?_
  refine q_callV_i F (c_X5_thrown hM2) gL_law_X5_thrown rfl hd_X5_thrown ⟨Nat.le_of_ble_eq_true rfl, Nat.le_of_ble_eq_true rfl⟩ hM2.1.1 rfl rfl rfl (Nat.le_of_ble_eq_true rfl) dL_law_1286 ⟨Nat.le_trans (lw_b3 (Nat.le_of_ble_eq_true rfl)) hc, Nat.le_trans (lw_b3 (Nat.le_of_ble_eq_true rfl)) hs⟩ ?_
  refine q_iload F dL_law_1289 rfl ?_
  refine q_icmp_eq F 1296 dL_law_1291 rfl (fun c1 => ?_) (fun c1 => absurd hr2 c1)
  refine q_iload F dL_law_1296 rfl ?_
  refine q_if_ne F 1313 dL_law_1298 rfl (fun c2 => ?_) (fun c2 => ?_)
  · skip
    refine q_goto F 1733 dL_law_1313 rfl ?_
    exact q_widen (lw_b3 (Nat.le_of_ble_eq_true rfl)) (lw_b3 (Nat.le_of_ble_eq_true rfl)) (q_to (kk _ _ hJ2) ⟨rfl, rfl, rfl, rfl, rfl, trivial⟩)
  refine q_aload_n F 3 dL_law_1301 rfl rfl ?_
  refine q_iconst F dL_law_1302 hc_0 ?_
  refine q_lald F dL_law_1303 ?_
  refine q_iload F dL_law_1304 rfl ?_
  refine q_i2l F dL_law_1306 ?_
  refine q_lcmp F (ha2 c2) dL_law_1307 ?_
  refine q_if_eq F 1313 dL_law_1308 rfl (fun c4 => ?_) (fun c4 => absurd rfl c4)
  refine q_goto F 1733 dL_law_1313 rfl ?_
  exact q_widen (lw_b3 (Nat.le_of_ble_eq_true rfl)) (lw_b3 (Nat.le_of_ble_eq_true rfl)) (q_to (kk _ _ hJ2) ⟨rfl, rfl, rfl, rfl, rfl, trivial⟩)

set_option maxHeartbeats 4000000 in
set_option maxRecDepth 100000 in
theorem k_keyOf {p : Program} {l : Launch} {e : Env} {s : State} {m : MethodId} {args : Array Value} {below : List Frame} {meth : Method} {c : Code} {g : hG} {X0 : va_W} {o : Nat} {f : Nat → Int64} {Q : State → Prop} {S : hS} {cells slots b L h md t : Nat} {xs : Nat → Int32} (F : hF p l s m args meth c cL_law 8 wsL_law RL g) (hst : l.stackTraces = false) (hX : va_X b L xs s s.heap) (hb : b < s.heap.size) (hbA : b < g.2.2) (hL : L < 2 ^ 31) (ht : 8 * t + 8 ≤ L) (hc : cells + 9 ≤ room_1.cells) (hs : slots + 55 ≤ room_1.slots) (hJ : jS S h md) (kk : ∀ (f' : Nat → Int64) (S' : hS), jS S' h md → V p l e room_1 s m args below meth c 8 g (oX g X0 o f') Q S' (cells + 9) (slots + 55) [(0, .ref b), (1, .ref h), (2, .ref md), (3, .ref o), (4, .int (nI (8 * t)))] 1733 []) : V p l e room_1 s m args below meth c 8 g (oX g X0 o f) Q S cells slots [(0, .ref b), (1, .ref h), (2, .ref md), (3, .ref o), (4, .int (nI (8 * t)))] 1342 [] := by
  obtain ⟨sc, bk, ca, sa, ad, pa, ar, M, n, nc, ns, hG, hC, hM, hI⟩ := hJ
  have hCz := cC_z hC
  refine q_aload_n F 1 dL_law_1342 rfl rfl ?_
  refine q_aload_n F 0 dL_law_1343 rfl rfl ?_
  refine q_iload F dL_law_1344 rfl ?_
  refine q_iconst F dL_law_1346 hc_1 ?_
  refine q_iadd F dL_law_1347 ?_
  refine q_sld F hX hb hbA (nI_add (8 * t) 1) (by omega) hL dL_law_1348 ?_
  refine q_aload_n F 3 dL_law_1349 rfl rfl ?_
  refine q_callO F (c_L_keyOf hst hG hCz) gL_law_L_keyOf rfl hd_L_keyOf ⟨Nat.le_of_ble_eq_true rfl, Nat.le_of_ble_eq_true rfl⟩ rfl rfl (Nat.le_of_ble_eq_true rfl) dL_law_1350 ⟨Nat.le_trans (lw_b1 (Nat.le_of_ble_eq_true rfl)) hc, Nat.le_trans (lw_b1 (Nat.le_of_ble_eq_true rfl)) hs⟩ (fun r1 f1 S1 hw => ?_)
  refine q_istore F dL_law_1353 (by decide) rfl ?_
  have hM1 := mS_cl hM (pw1_cl hw (fun z => by obtain ⟨v, -, -, rfl, -⟩ := z; exact clF.rf _))
  refine q_aload_n F 2 dL_law_1355 rfl rfl ?_
  refine q_aload_n F 0 dL_law_1356 rfl rfl ?_
  refine q_iload F dL_law_1357 rfl ?_
  refine q_iconst F dL_law_1359 hc_1 ?_
  refine q_iadd F dL_law_1360 ?_
  refine q_sld F hX hb hbA (nI_add (8 * t) 1) (by omega) hL dL_law_1361 ?_
  refine q_callV_gi F (c_X5_keyOf hM1 hC.1.2.1 hC.1.2.2) gL_law_X5_keyOf rfl hd_X5_keyOf ⟨Nat.le_of_ble_eq_true rfl, Nat.le_of_ble_eq_true rfl⟩ hM1.1.1 rfl rfl rfl (Nat.le_of_ble_eq_true rfl) dL_law_1362 ⟨Nat.le_trans (lw_b2 (Nat.le_of_ble_eq_true rfl)) hc, Nat.le_trans (lw_b2 (Nat.le_of_ble_eq_true rfl)) hs⟩ (fun x2 S2 hp => ?_)
  have hT := j_keyOf hG hCz hI hw hp
  refine q_istore F dL_law_1365 (by decide) rfl ?_
  obtain ⟨hJ2, ⟨sc2, M2, hM2, hr2⟩, ha2⟩ := hT
  refine q_aload_n F 2 dL_law_1367 rfl rfl ?_
  refine q_callV_i F (c_X5_thrown hM2) gL_law_X5_thrown rfl hd_X5_thrown ⟨Nat.le_of_ble_eq_true rfl, Nat.le_of_ble_eq_true rfl⟩ hM2.1.1 rfl rfl rfl (Nat.le_of_ble_eq_true rfl) dL_law_1368 ⟨Nat.le_trans (lw_b3 (Nat.le_of_ble_eq_true rfl)) hc, Nat.le_trans (lw_b3 (Nat.le_of_ble_eq_true rfl)) hs⟩ ?_
  refine q_iload F dL_law_1371 rfl ?_
  refine q_icmp_eq F 1378 dL_law_1373 rfl (fun c1 => ?_) (fun c1 => absurd hr2 c1)
  refine q_iload F dL_law_1378 rfl ?_
  refine q_if_ne F 1395 dL_law_1380 rfl (fun c2 => ?_) (fun c2 => ?_)
  · skip
    refine q_goto F 1733 dL_law_1395 rfl ?_
    exact q_widen (lw_b3 (Nat.le_of_ble_eq_true rfl)) (lw_b3 (Nat.le_of_ble_eq_true rfl)) (q_to (kk _ _ hJ2) ⟨rfl, rfl, rfl, rfl, rfl, trivial⟩)
  refine q_aload_n F 3 dL_law_1383 rfl rfl ?_
  refine q_iconst F dL_law_1384 hc_0 ?_
  refine q_lald F dL_law_1385 ?_
  refine q_iload F dL_law_1386 rfl ?_
  refine q_i2l F dL_law_1388 ?_
  refine q_lcmp F (ha2 c2) dL_law_1389 ?_
  refine q_if_eq F 1395 dL_law_1390 rfl (fun c4 => ?_) (fun c4 => absurd rfl c4)
  refine q_goto F 1733 dL_law_1395 rfl ?_
  exact q_widen (lw_b3 (Nat.le_of_ble_eq_true rfl)) (lw_b3 (Nat.le_of_ble_eq_true rfl)) (q_to (kk _ _ hJ2) ⟨rfl, rfl, rfl, rfl, rfl, trivial⟩)
