set_option maxHeartbeats 4000000 in
set_option maxRecDepth 100000 in
theorem c_L_due {l : Launch} {g : hG} {X : va_W} {S : hS} (hst : l.stackTraces = false) {h cA bk ca sa : Nat} {f : Nat → Int32} {ad pa : Nat → Nat} {sc : Nat → Int32} {M : Nat → Nat → Int32} {n nc ns : Nat} (hB : lB S h cA f bk ca sa ad pa sc M n nc ns) (hKs : ∀ i, i < n → okK (M 5 i) = true) (hMk : ∀ i, i < n → mkP (M 6 i)) (h0 : f 0 = sc 1) (h1 : f 1 = nI n) {name port key : Int32} (hNP : okNP name port = true) (hK : okK key = true) : hMet l yL_due wsL_due rm_L_due g X S [.ref h, .ref cA, .int name, .int port, .int key] (pI (jb (sc 1) M name port key (-1) n) S) := by
  refine h_start (maxL := 11) (ret := (some .int)) (by decide) rfl (Nat.le_of_ble_eq_true rfl) ?_
  intro p e s m args below meth c F hr hinit
  have hn40 := lB_n hB
  refine q_iconst F dL_due_0 hc_5 ?_
  refine q_istore F dL_due_1 (by decide) rfl ?_
  refine q_iconst F dL_due_3 hc_0 ?_
  refine q_istore F dL_due_4 (by decide) rfl ?_
  have L : ∀ (r j cells slots : Nat), j + r = n → cells + 6 * r ≤ 240 → slots + 36 * r ≤ 1440 → V p l e rm_L_due s m args below meth c 11 g X (MQ below (hQ g X (pI (jb (sc 1) M name port key (-1) n) S)) args s rm_L_due.cells rm_L_due.slots (hA g)) S cells slots [(0, .ref h), (1, .ref cA), (2, .int name), (3, .int port), (4, .int key), (5, .int (jb (sc 1) M name port key (-1) j)), (6, .int (nI j))] 6 [] := by
    intro r
    induction r with
    | zero =>
      intro j cells slots hjr hcz hsz
      have hjn : j = n := by omega
      have hc1 : cells + 0 ≤ rm_L_due.cells := Nat.le_trans (by omega) hcz
      have hs1 : slots + 0 ≤ rm_L_due.slots := Nat.le_trans (by omega) hsz
      refine q_iload F dL_due_6 rfl ?_
      refine q_aload_n F 1 dL_due_8 rfl rfl ?_
      refine q_iconst F dL_due_9 hc_1 ?_
      refine q_cld F hB 1 rfl (by decide) dL_due_10 ?_
      refine q_top (v' := .int (nI n)) ?_ (congrArg Value.int h1)
      refine q_icmp_ge F 160 dL_due_11 rfl (fun c11 => ?_) (fun c11 => ?_)
      · refine q_iload F dL_due_160 rfl ?_
        exact (q_reti F hr rfl dL_due_162 (Nat.le_trans lw_b0 hc1) (Nat.le_trans lw_b0 hs1) ⟨by rw [hjn], rfl⟩)
      exact absurd c11 (gT rfl rfl (show n ≤ j by omega) (by omega))
    | succ r ih =>
      intro j cells slots hjr hcz hsz
      have hj : j < n := by omega
      have hk := hKs j hj
      have hm := hMk j hj
      have hc1 : cells + 6 ≤ rm_L_due.cells := Nat.le_trans (show cells + 6 ≤ 240 by omega) (Nat.le_of_ble_eq_true rfl)
      have hs1 : slots + 36 ≤ rm_L_due.slots := Nat.le_trans (show slots + 36 ≤ 1440 by omega) (Nat.le_of_ble_eq_true rfl)
      refine q_iload F dL_due_6 rfl ?_
      refine q_aload_n F 1 dL_due_8 rfl rfl ?_
      refine q_iconst F dL_due_9 hc_1 ?_
      refine q_cld F hB 1 rfl (by decide) dL_due_10 ?_
      refine q_top (v' := .int (nI n)) ?_ (congrArg Value.int h1)
      refine q_icmp_ge F 160 dL_due_11 rfl (fun c11 => ?_) (fun c11 => ?_)
      · exact absurd c11 (gF rfl rfl hj (by omega))
      refine q_aload_n F 0 dL_due_14 rfl rfl ?_
      refine q_iload F dL_due_15 rfl ?_
      refine q_callV_i F (n_keyOf hst hB hj) gL_due_X4_keyOf rfl hd_X4_keyOf ⟨Nat.le_of_ble_eq_true rfl, Nat.le_of_ble_eq_true rfl⟩ (lB_o hB) rfl rfl rfl (Nat.le_of_ble_eq_true rfl) dL_due_17 ⟨Nat.le_trans (lw_b1 (Nat.le_of_ble_eq_true rfl)) hc1, Nat.le_trans (lw_b1 (Nat.le_of_ble_eq_true rfl)) hs1⟩ ?_
      refine q_istore F dL_due_20 (by decide) rfl ?_
      refine q_aload_n F 0 dL_due_22 rfl rfl ?_
      refine q_iload F dL_due_23 rfl ?_
      refine q_callV_i F (n_end hst hB hj) gL_due_X4_end rfl hd_X4_end ⟨Nat.le_of_ble_eq_true rfl, Nat.le_of_ble_eq_true rfl⟩ (lB_o hB) rfl rfl rfl (Nat.le_of_ble_eq_true rfl) dL_due_25 ⟨Nat.le_trans (lw_b2 (Nat.le_of_ble_eq_true rfl)) hc1, Nat.le_trans (lw_b2 (Nat.le_of_ble_eq_true rfl)) hs1⟩ ?_
      refine q_cutB (tgt := 49) (st1 := []) (k := cells + 3) (n := slots + 18) (.int (b2 (en (sc 1) (M 8 j)))) (fun K28 => ?_) ?_
      · refine q_iconst F dL_due_28 hc_m1 ?_
        refine q_icmp_eq F 48 dL_due_29 rfl (fun c29 => ?_) (fun c29 => ?_)
        · refine q_iconst F dL_due_48 hc_0 ?_
          exact q_widen (lw_b2 (Nat.le_of_ble_eq_true rfl)) (lw_b2 (Nat.le_of_ble_eq_true rfl)) (q_top K28 (congrArg Value.int (by first | exact en_f1 c29 | exact en_f2 c41 | exact en_t c29 c41)))
        refine q_aload_n F 0 dL_due_32 rfl rfl ?_
        refine q_iload F dL_due_33 rfl ?_
        refine q_callV_i F (n_end hst hB hj) gL_due_X4_end rfl hd_X4_end ⟨Nat.le_of_ble_eq_true rfl, Nat.le_of_ble_eq_true rfl⟩ (lB_o hB) rfl rfl rfl (Nat.le_of_ble_eq_true rfl) dL_due_35 ⟨Nat.le_trans (lw_b3 (Nat.le_of_ble_eq_true rfl)) hc1, Nat.le_trans (lw_b3 (Nat.le_of_ble_eq_true rfl)) hs1⟩ ?_
        refine q_aload_n F 1 dL_due_38 rfl rfl ?_
        refine q_iconst F dL_due_39 hc_0 ?_
        refine q_cld F hB 0 rfl (by decide) dL_due_40 ?_
        refine q_top (v' := .int (sc 1)) ?_ (congrArg Value.int h0)
        refine q_icmp_gt F 48 dL_due_41 rfl (fun c41 => ?_) (fun c41 => ?_)
        · refine q_iconst F dL_due_48 hc_0 ?_
          exact q_widen (lw_b3 (Nat.le_of_ble_eq_true rfl)) (lw_b3 (Nat.le_of_ble_eq_true rfl)) (q_top K28 (congrArg Value.int (by first | exact en_f1 c29 | exact en_f2 c41 | exact en_t c29 c41)))
        refine q_iconst F dL_due_44 hc_1 ?_
        refine q_goto F 49 dL_due_45 rfl ?_
        exact q_widen (lw_b3 (Nat.le_of_ble_eq_true rfl)) (lw_b3 (Nat.le_of_ble_eq_true rfl)) (q_top K28 (congrArg Value.int (by first | exact en_f1 c29 | exact en_f2 c41 | exact en_t c29 c41)))
      refine q_istore F dL_due_49 (by decide) rfl ?_
      refine q_aload_n F 0 dL_due_51 rfl rfl ?_
      refine q_iload F dL_due_52 rfl ?_
      refine q_iload_n F 2 dL_due_54 rfl rfl ?_
      refine q_iload_n F 3 dL_due_55 rfl rfl ?_
      refine q_callV_i F (n_matches hst hB hj hNP) gL_due_X4_matches rfl hd_X4_matches ⟨Nat.le_of_ble_eq_true rfl, Nat.le_of_ble_eq_true rfl⟩ (lB_o hB) rfl rfl rfl (Nat.le_of_ble_eq_true rfl) dL_due_56 ⟨Nat.le_trans (lw_b2 (Nat.le_of_ble_eq_true rfl)) hc1, Nat.le_trans (lw_b2 (Nat.le_of_ble_eq_true rfl)) hs1⟩ ?_
      refine q_istore F dL_due_59 (by decide) rfl ?_
      refine q_cutB (tgt := 131) (st1 := []) (k := cells + 6) (n := slots + 36) (.int (jm (sc 1) M j key (-1))) (fun K61 => ?_) ?_
      · refine q_iload F dL_due_61 rfl ?_
        refine q_sipush (v := 1000) F dL_due_63 (by decide) ?_
        refine q_idiv F dL_due_66 (by decide) ?_
        refine q_top (v' := .int (M 6 j)) ?_ (congrArg Value.int (ko_div hm hk))
        refine q_iconst F dL_due_67 hc_1 ?_
        refine q_icmp_ne F 86 dL_due_68 rfl (fun c68 => ?_) (fun c68 => ?_)
        · refine q_iload F dL_due_86 rfl ?_
          refine q_sipush (v := 1000) F dL_due_88 (by decide) ?_
          refine q_idiv F dL_due_91 (by decide) ?_
          refine q_top (v' := .int (M 6 j)) ?_ (congrArg Value.int (ko_div hm hk))
          refine q_if_gt F 100 dL_due_92 rfl (fun c92 => ?_) (fun c92 => ?_)
          · refine q_iconst F dL_due_100 hc_5 ?_
            refine q_goto F 131 dL_due_101 rfl ?_
            exact q_widen (lw_b2 (Nat.le_of_ble_eq_true rfl)) (lw_b2 (Nat.le_of_ble_eq_true rfl)) (q_top K61 (congrArg Value.int (by first | exact jm_0 c68 c79 | exact jm_2 hk hm c92 c97 c108 | exact jm_3 hk hm c92 c97 c108 c123 | exact jm_4 hk hm c92 c97 c108 c123 | exact jm_5 hk (fun z => c68 z.1) c92 | exact jm_5 hk (fun z => c79 z.2) c92 | exact jm_5e hk hm c92 c97 | exact absurd (show (0 : Int32) < M 6 j by rw [c68]; decide) c92)))
          refine q_iload F dL_due_95 rfl ?_
          refine q_if_eq F 104 dL_due_97 rfl (fun c97 => ?_) (fun c97 => ?_)
          · refine q_iload F dL_due_104 rfl ?_
            refine q_iload F dL_due_106 rfl ?_
            refine q_icmp_ne F 115 dL_due_108 rfl (fun c108 => ?_) (fun c108 => ?_)
            · refine q_iload F dL_due_115 rfl ?_
              refine q_iconst F dL_due_117 hc_3 ?_
              refine q_irem F dL_due_118 (by decide) ?_
              refine q_iload F dL_due_119 rfl ?_
              refine q_iconst F dL_due_121 hc_3 ?_
              refine q_irem F dL_due_122 (by decide) ?_
              refine q_icmp_ne F 130 dL_due_123 rfl (fun c123 => ?_) (fun c123 => ?_)
              · refine q_iconst F dL_due_130 hc_4 ?_
                exact q_widen (lw_b2 (Nat.le_of_ble_eq_true rfl)) (lw_b2 (Nat.le_of_ble_eq_true rfl)) (q_top K61 (congrArg Value.int (by first | exact jm_0 c68 c79 | exact jm_2 hk hm c92 c97 c108 | exact jm_3 hk hm c92 c97 c108 c123 | exact jm_4 hk hm c92 c97 c108 c123 | exact jm_5 hk (fun z => c68 z.1) c92 | exact jm_5 hk (fun z => c79 z.2) c92 | exact jm_5e hk hm c92 c97 | exact absurd (show (0 : Int32) < M 6 j by rw [c68]; decide) c92)))
              refine q_iconst F dL_due_126 hc_3 ?_
              refine q_goto F 131 dL_due_127 rfl ?_
              exact q_widen (lw_b2 (Nat.le_of_ble_eq_true rfl)) (lw_b2 (Nat.le_of_ble_eq_true rfl)) (q_top K61 (congrArg Value.int (by first | exact jm_0 c68 c79 | exact jm_2 hk hm c92 c97 c108 | exact jm_3 hk hm c92 c97 c108 c123 | exact jm_4 hk hm c92 c97 c108 c123 | exact jm_5 hk (fun z => c68 z.1) c92 | exact jm_5 hk (fun z => c79 z.2) c92 | exact jm_5e hk hm c92 c97 | exact absurd (show (0 : Int32) < M 6 j by rw [c68]; decide) c92)))
            refine q_iconst F dL_due_111 hc_2 ?_
            refine q_goto F 131 dL_due_112 rfl ?_
            exact q_widen (lw_b2 (Nat.le_of_ble_eq_true rfl)) (lw_b2 (Nat.le_of_ble_eq_true rfl)) (q_top K61 (congrArg Value.int (by first | exact jm_0 c68 c79 | exact jm_2 hk hm c92 c97 c108 | exact jm_3 hk hm c92 c97 c108 c123 | exact jm_4 hk hm c92 c97 c108 c123 | exact jm_5 hk (fun z => c68 z.1) c92 | exact jm_5 hk (fun z => c79 z.2) c92 | exact jm_5e hk hm c92 c97 | exact absurd (show (0 : Int32) < M 6 j by rw [c68]; decide) c92)))
          refine q_iconst F dL_due_100 hc_5 ?_
          refine q_goto F 131 dL_due_101 rfl ?_
          exact q_widen (lw_b2 (Nat.le_of_ble_eq_true rfl)) (lw_b2 (Nat.le_of_ble_eq_true rfl)) (q_top K61 (congrArg Value.int (by first | exact jm_0 c68 c79 | exact jm_2 hk hm c92 c97 c108 | exact jm_3 hk hm c92 c97 c108 c123 | exact jm_4 hk hm c92 c97 c108 c123 | exact jm_5 hk (fun z => c68 z.1) c92 | exact jm_5 hk (fun z => c79 z.2) c92 | exact jm_5e hk hm c92 c97 | exact absurd (show (0 : Int32) < M 6 j by rw [c68]; decide) c92)))
        refine q_iload F dL_due_71 rfl ?_
        refine q_sipush (v := 1000) F dL_due_73 (by decide) ?_
        refine q_irem F dL_due_76 (by decide) ?_
        refine q_top (v' := .int (M 5 j)) ?_ (congrArg Value.int (ko_mod hm hk))
        refine q_iload F dL_due_77 rfl ?_
        refine q_icmp_ne F 86 dL_due_79 rfl (fun c79 => ?_) (fun c79 => ?_)
        · refine q_iload F dL_due_86 rfl ?_
          refine q_sipush (v := 1000) F dL_due_88 (by decide) ?_
          refine q_idiv F dL_due_91 (by decide) ?_
          refine q_top (v' := .int (M 6 j)) ?_ (congrArg Value.int (ko_div hm hk))
          refine q_if_gt F 100 dL_due_92 rfl (fun c92 => ?_) (fun c92 => ?_)
          · refine q_iconst F dL_due_100 hc_5 ?_
            refine q_goto F 131 dL_due_101 rfl ?_
            exact q_widen (lw_b2 (Nat.le_of_ble_eq_true rfl)) (lw_b2 (Nat.le_of_ble_eq_true rfl)) (q_top K61 (congrArg Value.int (by first | exact jm_0 c68 c79 | exact jm_2 hk hm c92 c97 c108 | exact jm_3 hk hm c92 c97 c108 c123 | exact jm_4 hk hm c92 c97 c108 c123 | exact jm_5 hk (fun z => c68 z.1) c92 | exact jm_5 hk (fun z => c79 z.2) c92 | exact jm_5e hk hm c92 c97 | exact absurd (show (0 : Int32) < M 6 j by rw [c68]; decide) c92)))
          refine q_iload F dL_due_95 rfl ?_
          refine q_if_eq F 104 dL_due_97 rfl (fun c97 => ?_) (fun c97 => ?_)
          · refine q_iload F dL_due_104 rfl ?_
            refine q_iload F dL_due_106 rfl ?_
            refine q_icmp_ne F 115 dL_due_108 rfl (fun c108 => ?_) (fun c108 => ?_)
            · refine q_iload F dL_due_115 rfl ?_
              refine q_iconst F dL_due_117 hc_3 ?_
              refine q_irem F dL_due_118 (by decide) ?_
              refine q_iload F dL_due_119 rfl ?_
              refine q_iconst F dL_due_121 hc_3 ?_
              refine q_irem F dL_due_122 (by decide) ?_
              refine q_icmp_ne F 130 dL_due_123 rfl (fun c123 => ?_) (fun c123 => ?_)
              · refine q_iconst F dL_due_130 hc_4 ?_
                exact q_widen (lw_b2 (Nat.le_of_ble_eq_true rfl)) (lw_b2 (Nat.le_of_ble_eq_true rfl)) (q_top K61 (congrArg Value.int (by first | exact jm_0 c68 c79 | exact jm_2 hk hm c92 c97 c108 | exact jm_3 hk hm c92 c97 c108 c123 | exact jm_4 hk hm c92 c97 c108 c123 | exact jm_5 hk (fun z => c68 z.1) c92 | exact jm_5 hk (fun z => c79 z.2) c92 | exact jm_5e hk hm c92 c97 | exact absurd (show (0 : Int32) < M 6 j by rw [c68]; decide) c92)))
              refine q_iconst F dL_due_126 hc_3 ?_
              refine q_goto F 131 dL_due_127 rfl ?_
              exact q_widen (lw_b2 (Nat.le_of_ble_eq_true rfl)) (lw_b2 (Nat.le_of_ble_eq_true rfl)) (q_top K61 (congrArg Value.int (by first | exact jm_0 c68 c79 | exact jm_2 hk hm c92 c97 c108 | exact jm_3 hk hm c92 c97 c108 c123 | exact jm_4 hk hm c92 c97 c108 c123 | exact jm_5 hk (fun z => c68 z.1) c92 | exact jm_5 hk (fun z => c79 z.2) c92 | exact jm_5e hk hm c92 c97 | exact absurd (show (0 : Int32) < M 6 j by rw [c68]; decide) c92)))
            refine q_iconst F dL_due_111 hc_2 ?_
            refine q_goto F 131 dL_due_112 rfl ?_
            exact q_widen (lw_b2 (Nat.le_of_ble_eq_true rfl)) (lw_b2 (Nat.le_of_ble_eq_true rfl)) (q_top K61 (congrArg Value.int (by first | exact jm_0 c68 c79 | exact jm_2 hk hm c92 c97 c108 | exact jm_3 hk hm c92 c97 c108 c123 | exact jm_4 hk hm c92 c97 c108 c123 | exact jm_5 hk (fun z => c68 z.1) c92 | exact jm_5 hk (fun z => c79 z.2) c92 | exact jm_5e hk hm c92 c97 | exact absurd (show (0 : Int32) < M 6 j by rw [c68]; decide) c92)))
          refine q_iconst F dL_due_100 hc_5 ?_
          refine q_goto F 131 dL_due_101 rfl ?_
          exact q_widen (lw_b2 (Nat.le_of_ble_eq_true rfl)) (lw_b2 (Nat.le_of_ble_eq_true rfl)) (q_top K61 (congrArg Value.int (by first | exact jm_0 c68 c79 | exact jm_2 hk hm c92 c97 c108 | exact jm_3 hk hm c92 c97 c108 c123 | exact jm_4 hk hm c92 c97 c108 c123 | exact jm_5 hk (fun z => c68 z.1) c92 | exact jm_5 hk (fun z => c79 z.2) c92 | exact jm_5e hk hm c92 c97 | exact absurd (show (0 : Int32) < M 6 j by rw [c68]; decide) c92)))
        refine q_iconst F dL_due_82 hc_0 ?_
        refine q_goto F 131 dL_due_83 rfl ?_
        exact q_widen (lw_b2 (Nat.le_of_ble_eq_true rfl)) (lw_b2 (Nat.le_of_ble_eq_true rfl)) (q_top K61 (congrArg Value.int (by first | exact jm_0 c68 c79 | exact jm_2 hk hm c92 c97 c108 | exact jm_3 hk hm c92 c97 c108 c123 | exact jm_4 hk hm c92 c97 c108 c123 | exact jm_5 hk (fun z => c68 z.1) c92 | exact jm_5 hk (fun z => c79 z.2) c92 | exact jm_5e hk hm c92 c97 | exact absurd (show (0 : Int32) < M 6 j by rw [c68]; decide) c92)))
      refine q_istore F dL_due_131 (by decide) rfl ?_
      refine q_cutB (tgt := 152) (st1 := []) (k := cells + 6) (n := slots + 36) (.int (jb (sc 1) M name port key (-1) (j + 1))) (fun K133 => ?_) ?_
      · refine q_iload F dL_due_133 rfl ?_
        refine q_if_eq F 150 dL_due_135 rfl (fun c135 => ?_) (fun c135 => ?_)
        · refine q_iload F dL_due_150 rfl ?_
          exact q_widen (lw_b1 (Nat.le_of_ble_eq_true rfl)) (lw_b1 (Nat.le_of_ble_eq_true rfl)) (q_top K133 (congrArg Value.int (by first | exact jbn_0 c135 | exact jbn_1 c135 c142 | exact jbn_2 c135 c142)))
        refine q_iload F dL_due_138 rfl ?_
        refine q_iload F dL_due_140 rfl ?_
        refine q_icmp_ge F 150 dL_due_142 rfl (fun c142 => ?_) (fun c142 => ?_)
        · refine q_iload F dL_due_150 rfl ?_
          exact q_widen (lw_b1 (Nat.le_of_ble_eq_true rfl)) (lw_b1 (Nat.le_of_ble_eq_true rfl)) (q_top K133 (congrArg Value.int (by first | exact jbn_0 c135 | exact jbn_1 c135 c142 | exact jbn_2 c135 c142)))
        refine q_iload F dL_due_145 rfl ?_
        refine q_goto F 152 dL_due_147 rfl ?_
        exact q_widen (lw_b1 (Nat.le_of_ble_eq_true rfl)) (lw_b1 (Nat.le_of_ble_eq_true rfl)) (q_top K133 (congrArg Value.int (by first | exact jbn_0 c135 | exact jbn_1 c135 c142 | exact jbn_2 c135 c142)))
      refine q_istore F dL_due_152 (by decide) rfl ?_
      refine q_iinc F (nI (j + 1)) dL_due_154 rfl (nI_inc j) (by decide) rfl ?_
      refine q_goto F 6 dL_due_157 rfl ?_
      exact q_widen (lw_b1 (Nat.le_of_ble_eq_true rfl)) (lw_b1 (Nat.le_of_ble_eq_true rfl)) (q_to (ih (j + 1) (cells + 6) (slots + 36) (by omega) (by omega) (by omega)) ⟨rfl, rfl, rfl, rfl, rfl, rfl, rfl, trivial⟩)
  exact q_to (L n 0 0 0 (by omega) (by omega) (by omega)) ⟨rfl, rfl, rfl, rfl, rfl, rfl, rfl, trivial⟩

set_option maxHeartbeats 4000000 in
set_option maxRecDepth 100000 in
theorem c_L_name {l : Launch} {g : hG} {X : va_W} {S : hS} {A : Nat} (hA1 : A < 2 ^ 31) : hMet l yL_name wsL_name rm_L_name g X S [.int (nI A)] (pI (nI (nmN A)) S) := by
  refine h_start (maxL := 1) (ret := (some .int)) (by decide) rfl (Nat.le_of_ble_eq_true rfl) ?_
  intro p e s m args below meth c F hr hinit
  refine q_iload_n F 0 dL_name_0 rfl rfl ?_
  refine q_iconst F dL_name_1 hc_3 ?_
  refine q_irem F dL_name_2 (by decide) ?_
  refine q_if_ne F 16 dL_name_3 rfl (fun c3 => ?_) (fun c3 => ?_)
  · refine q_sipush (v := 1200) F dL_name_16 (by decide) ?_
    refine q_iload_n F 0 dL_name_19 rfl rfl ?_
    refine q_iconst F dL_name_20 hc_3 ?_
    refine q_idiv F dL_name_21 (by decide) ?_
    refine q_iconst F dL_name_22 hc_4 ?_
    refine q_irem F dL_name_23 (by decide) ?_
    refine q_iadd F dL_name_24 ?_
    refine q_bipush (v := 10) F dL_name_25 (by decide) ?_
    refine q_iload_n F 0 dL_name_27 rfl rfl ?_
    refine q_bipush (v := 12) F dL_name_28 (by decide) ?_
    refine q_idiv F dL_name_30 (by decide) ?_
    refine q_iconst F dL_name_31 hc_2 ?_
    refine q_irem F dL_name_32 (by decide) ?_
    refine q_imul F dL_name_33 ?_
    refine q_iadd F dL_name_34 ?_
    first
      | exact (q_reti F hr rfl dL_name_35 (Nat.le_of_ble_eq_true rfl) (Nat.le_of_ble_eq_true rfl) ⟨congrArg (fun x => some (Value.int x)) (nm_0 hA1 c3), rfl⟩)
      | exact (q_reti F hr rfl dL_name_35 (Nat.le_of_ble_eq_true rfl) (Nat.le_of_ble_eq_true rfl) ⟨congrArg (fun x => some (Value.int x)) (nm_1 hA1 c3), rfl⟩)
  refine q_iload_n F 0 dL_name_6 rfl rfl ?_
  refine q_iconst F dL_name_7 hc_3 ?_
  refine q_idiv F dL_name_8 (by decide) ?_
  refine q_sipush (v := 10000) F dL_name_9 (by decide) ?_
  refine q_irem F dL_name_12 (by decide) ?_
  refine q_goto F 35 dL_name_13 rfl ?_
  first
    | exact (q_reti F hr rfl dL_name_35 (Nat.le_of_ble_eq_true rfl) (Nat.le_of_ble_eq_true rfl) ⟨congrArg (fun x => some (Value.int x)) (nm_0 hA1 c3), rfl⟩)
    | exact (q_reti F hr rfl dL_name_35 (Nat.le_of_ble_eq_true rfl) (Nat.le_of_ble_eq_true rfl) ⟨congrArg (fun x => some (Value.int x)) (nm_1 hA1 c3), rfl⟩)

set_option maxHeartbeats 4000000 in
set_option maxRecDepth 100000 in
theorem c_L_isBook {l : Launch} {g : hG} {X : va_W} {S : hS} (hst : l.stackTraces = false) {h cA bk ca sa : Nat} {f : Nat → Int32} {ad pa : Nat → Nat} {sc : Nat → Int32} {M : Nat → Nat → Int32} {n nc ns : Nat} (hB : lB S h cA f bk ca sa ad pa sc M n nc ns) (hI : lI sc M n) (hcI : cI f sc M n nc ns) {A B : Nat} (hA1 : A < 2 ^ 31) (hb2 : B < 2 ^ 31) : hMet l yL_isBook wsL_isBook rm_L_isBook g X S [.ref h, .ref cA, .int (nI A), .int (nI B)] (pI 1 S) := by
  refine h_start (maxL := 12) (ret := (some .boolean)) (by decide) rfl (Nat.le_of_ble_eq_true rfl) ?_
  intro p e s m args below meth c F hr hinit
  have hn40 := lB_n hB
  have hNP : okNP (nI (nmN A)) (nI (B % 2)) = true := okNP_v (nmN_le A) (by omega)
  have hK : okK (nI (B / 2 % 6)) = true := okK_v (by omega)
  have hKs : ∀ i, i < n → okK (M 5 i) = true := hI.1.1
  have hMk : ∀ i, i < n → mkP (M 6 i) := fun i hi => (hI.2.2 i hi).1
  have h0 : f 0 = sc 1 := hcI.1
  have h1 : f 1 = nI n := hcI.2.1
  have h6 : f 6 = sc 29 + 1 := hcI.2.2.2.2.2.1
  refine q_iload_n F 2 dL_isBook_0 rfl rfl ?_
  refine q_callS_i F (c_L_name hA1) gL_isBook_L_name rfl hd_L_name ⟨Nat.le_of_ble_eq_true rfl, Nat.le_of_ble_eq_true rfl⟩ rfl rfl (Nat.le_of_ble_eq_true rfl) dL_isBook_1 ⟨Nat.le_of_ble_eq_true rfl, Nat.le_of_ble_eq_true rfl⟩ ?_
  refine q_istore F dL_isBook_4 (by decide) rfl ?_
  refine q_iload_n F 3 dL_isBook_6 rfl rfl ?_
  refine q_iconst F dL_isBook_7 hc_2 ?_
  refine q_irem F dL_isBook_8 (by decide) ?_
  refine q_top (v' := .int (nI (B % 2))) ?_ (congrArg Value.int (m2N hb2))
  refine q_istore F dL_isBook_9 (by decide) rfl ?_
  refine q_iconst F dL_isBook_11 hc_m1 ?_
  refine q_istore F dL_isBook_12 (by decide) rfl ?_
  refine q_lconst (v := 0) F dL_isBook_14 (by decide) ?_
  refine q_lstore F dL_isBook_15 (by decide) rfl ?_
  refine q_iload_n F 3 dL_isBook_17 rfl rfl ?_
  refine q_iconst F dL_isBook_18 hc_2 ?_
  refine q_idiv F dL_isBook_19 (by decide) ?_
  refine q_bipush (v := 6) F dL_isBook_20 (by decide) ?_
  refine q_irem F dL_isBook_22 (by decide) ?_
  refine q_top (v' := .int (nI (B / 2 % 6))) ?_ (congrArg Value.int (by rw [d2N hb2]; exact nI_mod (d := 6) (by omega) (by decide) (by decide)))
  refine q_istore F dL_isBook_23 (by decide) rfl ?_
  refine q_aload_n F 0 dL_isBook_25 rfl rfl ?_
  refine q_callV_i F (n_lines hB) gL_isBook_X4_lines rfl hd_X4_lines ⟨Nat.le_of_ble_eq_true rfl, Nat.le_of_ble_eq_true rfl⟩ (lB_o hB) rfl rfl rfl (Nat.le_of_ble_eq_true rfl) dL_isBook_26 ⟨Nat.le_of_ble_eq_true rfl, Nat.le_of_ble_eq_true rfl⟩ ?_
  refine q_aload_n F 1 dL_isBook_29 rfl rfl ?_
  refine q_iconst F dL_isBook_30 hc_1 ?_
  refine q_cld F hB 1 rfl (by decide) dL_isBook_31 ?_
  refine q_top (v' := .int (nI n)) ?_ (congrArg Value.int (h1))
  refine q_icmp_ne F 62 dL_isBook_32 rfl (fun c32 => ?_) (fun c32 => ?_)
  · exact absurd c32 (not_not_intro rfl)
  refine q_aload_n F 0 dL_isBook_35 rfl rfl ?_
  refine q_callV_i F (n_day hB) gL_isBook_X4_day rfl hd_X4_day ⟨Nat.le_of_ble_eq_true rfl, Nat.le_of_ble_eq_true rfl⟩ (lB_o hB) rfl rfl rfl (Nat.le_of_ble_eq_true rfl) dL_isBook_36 ⟨Nat.le_of_ble_eq_true rfl, Nat.le_of_ble_eq_true rfl⟩ ?_
  refine q_aload_n F 1 dL_isBook_39 rfl rfl ?_
  refine q_iconst F dL_isBook_40 hc_0 ?_
  refine q_cld F hB 0 rfl (by decide) dL_isBook_41 ?_
  refine q_top (v' := .int (sc 1)) ?_ (congrArg Value.int (h0))
  refine q_icmp_ne F 62 dL_isBook_42 rfl (fun c42 => ?_) (fun c42 => ?_)
  · exact absurd c42 (not_not_intro rfl)
  refine q_aload_n F 0 dL_isBook_45 rfl rfl ?_
  refine q_callV_i F (n_waiting hB) gL_isBook_X4_waiting rfl hd_X4_waiting ⟨Nat.le_of_ble_eq_true rfl, Nat.le_of_ble_eq_true rfl⟩ (lB_o hB) rfl rfl rfl (Nat.le_of_ble_eq_true rfl) dL_isBook_46 ⟨Nat.le_of_ble_eq_true rfl, Nat.le_of_ble_eq_true rfl⟩ ?_
  refine q_aload_n F 1 dL_isBook_49 rfl rfl ?_
  refine q_bipush (v := 6) F dL_isBook_50 (by decide) ?_
  refine q_cld F hB 6 rfl (by decide) dL_isBook_52 ?_
  refine q_top (v' := .int (sc 29 + 1)) ?_ (congrArg Value.int (h6))
  refine q_iconst F dL_isBook_53 hc_1 ?_
  refine q_isub F dL_isBook_54 ?_
  refine q_icmp_ne F 62 dL_isBook_55 rfl (fun c55 => ?_) (fun c55 => ?_)
  · exact absurd c55 (not_not_intro (Int32.add_sub_cancel (sc 29) 1).symm)
  refine q_iconst F dL_isBook_58 hc_1 ?_
  refine q_goto F 63 dL_isBook_59 rfl ?_
  refine q_istore F dL_isBook_63 (by decide) rfl ?_
  refine q_aload_n F 1 dL_isBook_65 rfl rfl ?_
  refine q_iconst F dL_isBook_66 hc_1 ?_
  refine q_cld F hB 1 rfl (by decide) dL_isBook_67 ?_
  refine q_top (v' := .int (nI n)) ?_ (congrArg Value.int (h1))
  refine q_iconst F dL_isBook_68 hc_1 ?_
  refine q_isub F dL_isBook_69 ?_
  refine q_top (v' := .int (dN n)) ?_ (congrArg Value.int (dN_pred n))
  refine q_istore F dL_isBook_70 (by decide) rfl ?_
  have L : ∀ (k r cells slots : Nat), k + r = n → cells + 7 * k ≤ 280 → slots + 42 * k ≤ 1680 → V p l e rm_L_isBook s m args below meth c 12 g X (MQ below (hQ g X (pI 1 S)) args s rm_L_isBook.cells rm_L_isBook.slots (hA g)) S cells slots [(0, .ref h), (1, .ref cA), (4, .int (nI (nmN A))), (5, .int (nI (B % 2))), (6, .int (fd (fun i => mt M i (nI (nmN A)) (nI (B % 2))) n r)), (7, .long (lr (fun i => decide (M 5 i = nI (B / 2 % 6))) n r)), (9, .int (nI (B / 2 % 6))), (10, .int 1), (11, .int (dN k))] 72 [] := by
    intro k
    induction k with
    | zero =>
      intro r cells slots hkr hcz hsz
      have hrn : r = n := by omega
      refine q_iload F dL_isBook_72 rfl ?_
      refine q_if_lt F 176 dL_isBook_74 rfl (fun c74 => ?_) (fun c74 => ?_)
      · refine q_widen (k := 280) (n := 1680) (by omega) (by omega) ?_
        refine q_iload F dL_isBook_176 rfl ?_
        refine q_if_eq F 234 dL_isBook_178 rfl (fun c178 => ?_) (fun c178 => ?_)
        · exact absurd c178 (by decide)
        refine q_aload_n F 0 dL_isBook_181 rfl rfl ?_
        refine q_iload F dL_isBook_182 rfl ?_
        refine q_iload F dL_isBook_184 rfl ?_
        refine q_callV_i F (n_find hst hB hNP) gL_isBook_X4_find rfl hd_X4_find ⟨Nat.le_of_ble_eq_true rfl, Nat.le_of_ble_eq_true rfl⟩ (lB_o hB) rfl rfl rfl (Nat.le_of_ble_eq_true rfl) dL_isBook_186 ⟨Nat.le_of_ble_eq_true rfl, Nat.le_of_ble_eq_true rfl⟩ ?_
        refine q_iload F dL_isBook_189 rfl ?_
        refine q_icmp_ne F 234 dL_isBook_191 rfl (fun c191 => ?_) (fun c191 => ?_)
        · exact absurd c191 (not_not_intro (by rw [hrn]))
        refine q_aload_n F 0 dL_isBook_194 rfl rfl ?_
        refine q_iload F dL_isBook_195 rfl ?_
        refine q_callV_l F (n_linesOf hst hB hK) gL_isBook_X4_linesOf rfl hd_X4_linesOf ⟨Nat.le_of_ble_eq_true rfl, Nat.le_of_ble_eq_true rfl⟩ (lB_o hB) rfl rfl rfl (Nat.le_of_ble_eq_true rfl) dL_isBook_197 ⟨Nat.le_of_ble_eq_true rfl, Nat.le_of_ble_eq_true rfl⟩ ?_
        refine q_lload F dL_isBook_200 rfl ?_
        refine q_lcmp F (lo_lr0 hrn) dL_isBook_202 ?_
        refine q_if_ne F 234 dL_isBook_203 rfl (fun c203 => ?_) (fun c203 => ?_)
        · exact absurd c203 (by decide)
        refine q_aload_n F 0 dL_isBook_206 rfl rfl ?_
        refine q_iload F dL_isBook_207 rfl ?_
        refine q_iload F dL_isBook_209 rfl ?_
        refine q_iload F dL_isBook_211 rfl ?_
        refine q_callV_i F (n_judgeByReading hst hB hNP hK) gL_isBook_X4_judgeByReading rfl hd_X4_judgeByReading ⟨Nat.le_of_ble_eq_true rfl, Nat.le_of_ble_eq_true rfl⟩ (lB_o hB) rfl rfl rfl (Nat.le_of_ble_eq_true rfl) dL_isBook_213 ⟨Nat.le_of_ble_eq_true rfl, Nat.le_of_ble_eq_true rfl⟩ ?_
        refine q_aload_n F 0 dL_isBook_216 rfl rfl ?_
        refine q_aload_n F 1 dL_isBook_217 rfl rfl ?_
        refine q_iload F dL_isBook_218 rfl ?_
        refine q_iload F dL_isBook_220 rfl ?_
        refine q_iload F dL_isBook_222 rfl ?_
        refine q_callS_i F (c_L_due hst hB hKs hMk h0 h1 hNP hK) gL_isBook_L_due rfl hd_L_due ⟨Nat.le_of_ble_eq_true rfl, Nat.le_of_ble_eq_true rfl⟩ rfl rfl (Nat.le_of_ble_eq_true rfl) dL_isBook_224 ⟨Nat.le_of_ble_eq_true rfl, Nat.le_of_ble_eq_true rfl⟩ ?_
        refine q_icmp_ne F 234 dL_isBook_227 rfl (fun c227 => ?_) (fun c227 => ?_)
        · exact absurd c227 (not_not_intro rfl)
        refine q_iconst F dL_isBook_230 hc_1 ?_
        refine q_goto F 235 dL_isBook_231 rfl ?_
        exact (q_reti F hr rfl dL_isBook_235 (Nat.le_of_ble_eq_true rfl) (Nat.le_of_ble_eq_true rfl) ⟨rfl, rfl⟩)
      exact absurd c74 (not_not_intro dN_0)
    | succ k ih =>
      intro r cells slots hkr hcz hsz
      have hkr : k + (r + 1) = n := by omega
      have hj : k < n := by omega
      have hk := hKs k hj
      have hm := hMk k hj
      have hl := hI.2.2 k hj
      have hc1 : cells + 7 ≤ rm_L_isBook.cells := Nat.le_trans (show cells + 7 ≤ 280 by omega) (Nat.le_of_ble_eq_true rfl)
      have hs1 : slots + 42 ≤ rm_L_isBook.slots := Nat.le_trans (show slots + 42 ≤ 1680 by omega) (Nat.le_of_ble_eq_true rfl)
      refine q_iload F dL_isBook_72 rfl ?_
      refine q_if_lt F 176 dL_isBook_74 rfl (fun c74 => ?_) (fun c74 => ?_)
      · exact absurd c74 (dN_s (by omega))
      refine q_iload F dL_isBook_77 rfl ?_
      refine q_if_eq F 176 dL_isBook_79 rfl (fun c79 => ?_) (fun c79 => ?_)
      · exact absurd c79 (by decide)
      refine q_aload_n F 0 dL_isBook_82 rfl rfl ?_
      refine q_iload F dL_isBook_83 rfl ?_
      refine q_iload F dL_isBook_85 rfl ?_
      refine q_iload F dL_isBook_87 rfl ?_
      refine q_callV_i F (n_matches hst hB hj hNP) gL_isBook_X4_matches rfl hd_X4_matches ⟨Nat.le_of_ble_eq_true rfl, Nat.le_of_ble_eq_true rfl⟩ (lB_o hB) rfl rfl rfl (Nat.le_of_ble_eq_true rfl) dL_isBook_89 ⟨Nat.le_trans (lw_b1 (Nat.le_of_ble_eq_true rfl)) hc1, Nat.le_trans (lw_b1 (Nat.le_of_ble_eq_true rfl)) hs1⟩ ?_
      refine q_cutB (tgt := 102) (st1 := []) (k := cells + 3) (n := slots + 18) (.int (fd (fun i => mt M i (nI (nmN A)) (nI (B % 2))) n (r + 1))) (fun K92 => ?_) ?_
      · refine q_if_eq F 100 dL_isBook_92 rfl (fun c92 => ?_) (fun c92 => ?_)
        · refine q_iload F dL_isBook_100 rfl ?_
          exact q_widen (lw_b1 (Nat.le_of_ble_eq_true rfl)) (lw_b1 (Nat.le_of_ble_eq_true rfl)) (q_top K92 (congrArg Value.int (by first | exact fdn_0 (f := (fun i => mt M i (nI (nmN A)) (nI (B % 2)))) hkr c92 | exact fdn_1 (f := (fun i => mt M i (nI (nmN A)) (nI (B % 2)))) hkr c92)))
        refine q_iload F dL_isBook_95 rfl ?_
        refine q_goto F 102 dL_isBook_97 rfl ?_
        exact q_widen (lw_b1 (Nat.le_of_ble_eq_true rfl)) (lw_b1 (Nat.le_of_ble_eq_true rfl)) (q_top K92 (congrArg Value.int (by first | exact fdn_0 (f := (fun i => mt M i (nI (nmN A)) (nI (B % 2)))) hkr c92 | exact fdn_1 (f := (fun i => mt M i (nI (nmN A)) (nI (B % 2)))) hkr c92)))
      refine q_istore F dL_isBook_102 (by decide) rfl ?_
      refine q_lload F dL_isBook_104 rfl ?_
      refine q_aload_n F 0 dL_isBook_106 rfl rfl ?_
      refine q_iload F dL_isBook_107 rfl ?_
      refine q_callV_i F (n_keyOf hst hB hj) gL_isBook_X4_keyOf rfl hd_X4_keyOf ⟨Nat.le_of_ble_eq_true rfl, Nat.le_of_ble_eq_true rfl⟩ (lB_o hB) rfl rfl rfl (Nat.le_of_ble_eq_true rfl) dL_isBook_109 ⟨Nat.le_trans (lw_b2 (Nat.le_of_ble_eq_true rfl)) hc1, Nat.le_trans (lw_b2 (Nat.le_of_ble_eq_true rfl)) hs1⟩ ?_
      refine q_sipush (v := 1000) F dL_isBook_112 (by decide) ?_
      refine q_irem F dL_isBook_115 (by decide) ?_
      refine q_top (v' := .int (M 5 k)) ?_ (congrArg Value.int (ko_mod hm hk))
      refine q_iload F dL_isBook_116 rfl ?_
      refine q_cutB (tgt := 129) (st1 := [.long (lr (fun i => decide (M 5 i = nI (B / 2 % 6))) n r)]) (k := cells + 4) (n := slots + 24) (.long (if decide (M 5 k = nI (B / 2 % 6)) = true then bitL k else 0)) (fun K118 => ?_) ?_
      · refine q_icmp_ne F 128 dL_isBook_118 rfl (fun c118 => ?_) (fun c118 => ?_)
        · refine q_lconst (v := 0) F dL_isBook_128 (by decide) ?_
          exact q_widen (lw_b2 (Nat.le_of_ble_eq_true rfl)) (lw_b2 (Nat.le_of_ble_eq_true rfl)) (q_top K118 (congrArg Value.long (by first | exact bit_0 c118 | exact bit_1 c118)))
        refine q_lconst (v := 1) F dL_isBook_121 (by decide) ?_
        refine q_iload F dL_isBook_122 rfl ?_
        refine q_lshl F dL_isBook_124 ?_
        refine q_goto F 129 dL_isBook_125 rfl ?_
        exact q_widen (lw_b2 (Nat.le_of_ble_eq_true rfl)) (lw_b2 (Nat.le_of_ble_eq_true rfl)) (q_top K118 (congrArg Value.long (by first | exact bit_0 c118 | exact bit_1 c118)))
      refine q_lor F dL_isBook_129 ?_
      refine q_top (v' := .long (lr (fun i => decide (M 5 i = nI (B / 2 % 6))) n (r + 1))) ?_ (congrArg Value.long (lr_s (f := (fun i => decide (M 5 i = nI (B / 2 % 6)))) hkr))
      refine q_lstore F dL_isBook_130 (by decide) rfl ?_
      refine q_aload_n F 0 dL_isBook_132 rfl rfl ?_
      refine q_iload F dL_isBook_133 rfl ?_
      refine q_callV_i F (n_seen hst hB hj) gL_isBook_X4_seen rfl hd_X4_seen ⟨Nat.le_of_ble_eq_true rfl, Nat.le_of_ble_eq_true rfl⟩ (lB_o hB) rfl rfl rfl (Nat.le_of_ble_eq_true rfl) dL_isBook_135 ⟨Nat.le_trans (lw_b2 (Nat.le_of_ble_eq_true rfl)) hc1, Nat.le_trans (lw_b2 (Nat.le_of_ble_eq_true rfl)) hs1⟩ ?_
      refine q_if_lt F 167 dL_isBook_138 rfl (fun c138 => ?_) (fun c138 => ?_)
      · exact absurd c138 (Int32.not_lt.mpr hl.2.1.1)
      refine q_aload_n F 0 dL_isBook_141 rfl rfl ?_
      refine q_iload F dL_isBook_142 rfl ?_
      refine q_callV_i F (n_seen hst hB hj) gL_isBook_X4_seen rfl hd_X4_seen ⟨Nat.le_of_ble_eq_true rfl, Nat.le_of_ble_eq_true rfl⟩ (lB_o hB) rfl rfl rfl (Nat.le_of_ble_eq_true rfl) dL_isBook_144 ⟨Nat.le_trans (lw_b3 (Nat.le_of_ble_eq_true rfl)) hc1, Nat.le_trans (lw_b3 (Nat.le_of_ble_eq_true rfl)) hs1⟩ ?_
      refine q_aload_n F 1 dL_isBook_147 rfl rfl ?_
      refine q_iconst F dL_isBook_148 hc_0 ?_
      refine q_cld F hB 0 rfl (by decide) dL_isBook_149 ?_
      refine q_top (v' := .int (sc 1)) ?_ (congrArg Value.int (h0))
      refine q_icmp_gt F 167 dL_isBook_150 rfl (fun c150 => ?_) (fun c150 => ?_)
      · exact absurd c150 (Int32.not_lt.mpr hl.2.1.2)
      refine q_aload_n F 0 dL_isBook_153 rfl rfl ?_
      refine q_iload F dL_isBook_154 rfl ?_
      refine q_callV_i F (n_end hst hB hj) gL_isBook_X4_end rfl hd_X4_end ⟨Nat.le_of_ble_eq_true rfl, Nat.le_of_ble_eq_true rfl⟩ (lB_o hB) rfl rfl rfl (Nat.le_of_ble_eq_true rfl) dL_isBook_156 ⟨Nat.le_trans (lw_b4 (Nat.le_of_ble_eq_true rfl)) hc1, Nat.le_trans (lw_b4 (Nat.le_of_ble_eq_true rfl)) hs1⟩ ?_
      refine q_iconst F dL_isBook_159 hc_m1 ?_
      refine q_icmp_lt F 167 dL_isBook_160 rfl (fun c160 => ?_) (fun c160 => ?_)
      · exact absurd c160 (Int32.not_lt.mpr hl.2.2)
      refine q_iconst F dL_isBook_163 hc_1 ?_
      refine q_goto F 168 dL_isBook_164 rfl ?_
      refine q_istore F dL_isBook_168 (by decide) rfl ?_
      refine q_iinc F (dN k) dL_isBook_170 rfl (dN_dec k) (by decide) rfl ?_
      refine q_goto F 72 dL_isBook_173 rfl ?_
      exact q_widen (lw_b4 (Nat.le_of_ble_eq_true rfl)) (lw_b4 (Nat.le_of_ble_eq_true rfl)) (q_to (ih (r + 1) (cells + 7) (slots + 42) (by omega) (by omega) (by omega)) ⟨rfl, rfl, rfl, rfl, rfl, rfl, rfl, rfl, rfl, trivial⟩)
  exact q_to (L n 0 0 0 (by omega) (by omega) (by omega)) ⟨rfl, rfl, rfl, rfl, rfl, rfl, rfl, rfl, rfl, trivial⟩

