set_option maxHeartbeats 4000000 in
set_option maxRecDepth 100000 in
theorem c_L_step {l : Launch} {g : hG} {X : va_W} {S : hS} (hst : l.stackTraces = false) {h cA bk ca sa : Nat} {f : Nat → Int32} {ad pa : Nat → Nat} {sc : Nat → Int32} {M : Nat → Nat → Int32} {n nc ns : Nat} (hB : lB S h cA f bk ca sa ad pa sc M n nc ns) (hI : lI sc M n) (hcI : cI f sc M n nc ns) {W1 : Nat} (hW1 : W1 < 2 ^ 31) {A B : Nat} (hA1 : A < 2 ^ 31) (hb2 : B < 2 ^ 31) : hMet l yL_step wsL_step rm_L_step g X S [.ref h, .ref cA, .int (nI W1), .int (nI A), .int (nI B)] (pGI (fun r S' => r = 1 ∧ lW S' h cA)) := by
  refine h_start (maxL := 12) (ret := (some .boolean)) (by decide) rfl (Nat.le_of_ble_eq_true rfl) ?_
  intro p e s m args below meth c F hr hinit
  have h0 : f 0 = sc 1 := hcI.1
  have h1 : f 1 = nI n := hcI.2.1
  have h2 : f 2 = nI nc := hcI.2.2.1
  have h3 : f 3 = nI ns := hcI.2.2.2.1
  have h4 : f 4 = sc 2 := hcI.2.2.2.2.1
  have h6 : f 6 = sc 29 + 1 := hcI.2.2.2.2.2.1
  have hn40 := lB_n hB
  have hnc20 := lB_nc hB
  have hns20 := lB_ns hB
  have hkd := kdN_in A
  refine q_iload_n F 3 dL_step_0 rfl rfl ?_
  refine q_callS_i F (c_L_name hA1) gL_step_L_name rfl hd_L_name ⟨Nat.le_of_ble_eq_true rfl, Nat.le_of_ble_eq_true rfl⟩ rfl rfl (Nat.le_of_ble_eq_true rfl) dL_step_1 ⟨Nat.le_of_ble_eq_true rfl, Nat.le_of_ble_eq_true rfl⟩ ?_
  refine q_istore F dL_step_4 (by decide) rfl ?_
  refine q_iload F dL_step_6 rfl ?_
  refine q_iconst F dL_step_8 hc_2 ?_
  refine q_irem F dL_step_9 (by decide) ?_
  refine q_top (v' := .int (nI (B % 2))) ?_ (congrArg Value.int (nI_mod (d := 2) (by omega) (by decide) (by decide)))
  refine q_istore F dL_step_10 (by decide) rfl ?_
  refine q_iload F dL_step_12 rfl ?_
  refine q_iconst F dL_step_14 hc_2 ?_
  refine q_idiv F dL_step_15 (by decide) ?_
  refine q_top (v' := .int (nI (B / 2))) ?_ (congrArg Value.int (pk_div (d := 2) (by omega) (by decide) (by decide)))
  refine q_cutB (tgt := 30) (st1 := [.int (nI (B / 2))]) (k := 0) (n := 0) (.int (nI (kdN A))) (fun K16 => ?_) ?_
  · refine q_iload_n F 3 dL_step_16 rfl rfl ?_
    refine q_iconst F dL_step_17 hc_5 ?_
    refine q_irem F dL_step_18 (by decide) ?_
    refine q_if_ne F 28 dL_step_19 rfl (fun c19 => ?_) (fun c19 => ?_)
    · refine q_bipush (v := 6) F dL_step_28 (by decide) ?_
      exact q_widen (Nat.le_of_ble_eq_true rfl) (Nat.le_of_ble_eq_true rfl) (q_top K16 (congrArg Value.int (by first | exact kd_0 hA1 c19 | exact kd_1 hA1 c19)))
    refine q_sipush (v := 200) F dL_step_22 (by decide) ?_
    refine q_goto F 30 dL_step_25 rfl ?_
    exact q_widen (Nat.le_of_ble_eq_true rfl) (Nat.le_of_ble_eq_true rfl) (q_top K16 (congrArg Value.int (by first | exact kd_0 hA1 c19 | exact kd_1 hA1 c19)))
  refine q_irem F dL_step_30 (nI_ne0 (by omega) (by omega)) ?_
  refine q_top (v' := .int (nI (B / 2 % kdN A))) ?_ (congrArg Value.int (nI_mod (by omega) (by omega) (by omega)))
  refine q_istore F dL_step_31 (by decide) rfl ?_
  refine q_aload_n F 1 dL_step_33 rfl rfl ?_
  refine q_iconst F dL_step_34 hc_1 ?_
  refine q_cld F hB 1 rfl (by decide) dL_step_35 ?_
  refine q_top (v' := .int (nI n)) ?_ (congrArg Value.int (h1))
  refine q_istore F dL_step_36 (by decide) rfl ?_
  refine q_iload_n F 2 dL_step_38 rfl rfl ?_
  refine q_bipush (v := 15) F dL_step_39 (by decide) ?_
  refine q_irem F dL_step_41 (by decide) ?_
  refine q_top (v' := .int (nI (W1 % 15))) ?_ (congrArg Value.int (nI_mod (d := 15) (by omega) (by decide) (by decide)))
  have hw : W1 % 15 < 15 := Nat.mod_lt _ (by decide)
  generalize W1 % 15 = w9 at hw
  refine q_widen (k := 0) (n := 0) (Nat.le_of_ble_eq_true rfl) (Nat.le_of_ble_eq_true rfl) ?_
  rcases (show w9 = 0 ∨ w9 = 1 ∨ w9 = 2 ∨ w9 = 3 ∨ w9 = 4 ∨ w9 = 5 ∨ w9 = 6 ∨ w9 = 7 ∨ w9 = 8 ∨ w9 = 9 ∨ w9 = 10 ∨ w9 = 11 ∨ w9 = 12 ∨ w9 = 13 ∨ w9 = 14 by omega) with rfl | rfl | rfl | rfl | rfl | rfl | rfl | rfl | rfl | rfl | rfl | rfl | rfl | rfl | rfl
  · exact q_tswI F (off := 70) 112 dL_step_42 (by decide +kernel) (by decide +kernel) (by decide +kernel) rfl (q_to (t_adds F hr hst hB hI hcI hA1 hb2) ⟨rfl, rfl, rfl, rfl, rfl, rfl, rfl, rfl, trivial⟩)
  · exact q_tswI F (off := 70) 112 dL_step_42 (by decide +kernel) (by decide +kernel) (by decide +kernel) rfl (q_to (t_adds F hr hst hB hI hcI hA1 hb2) ⟨rfl, rfl, rfl, rfl, rfl, rfl, rfl, rfl, trivial⟩)
  · exact q_tswI F (off := 70) 112 dL_step_42 (by decide +kernel) (by decide +kernel) (by decide +kernel) rfl (q_to (t_adds F hr hst hB hI hcI hA1 hb2) ⟨rfl, rfl, rfl, rfl, rfl, rfl, rfl, rfl, trivial⟩)
  · exact q_tswI F (off := 70) 112 dL_step_42 (by decide +kernel) (by decide +kernel) (by decide +kernel) rfl (q_to (t_adds F hr hst hB hI hcI hA1 hb2) ⟨rfl, rfl, rfl, rfl, rfl, rfl, rfl, rfl, trivial⟩)
  · exact q_tswI F (off := 70) 112 dL_step_42 (by decide +kernel) (by decide +kernel) (by decide +kernel) rfl (q_to (t_adds F hr hst hB hI hcI hA1 hb2) ⟨rfl, rfl, rfl, rfl, rfl, rfl, rfl, rfl, trivial⟩)
  · exact q_tswI F (off := 100) 142 dL_step_42 (by decide +kernel) (by decide +kernel) (by decide +kernel) rfl (q_to (t_hash F hr hst hB hI hcI hA1 hb2) ⟨rfl, rfl, rfl, rfl, rfl, rfl, rfl, rfl, trivial⟩)
  · exact q_tswI F (off := 224) 266 dL_step_42 (by decide +kernel) (by decide +kernel) (by decide +kernel) rfl (q_to (t_remove F hr hst hB hI hcI hA1 hb2) ⟨rfl, rfl, rfl, rfl, rfl, rfl, rfl, rfl, trivial⟩)
  · exact q_tswI F (off := 302) 344 dL_step_42 (by decide +kernel) (by decide +kernel) (by decide +kernel) rfl (q_to (t_certs F hr hst hB hI hcI hA1 hb2) ⟨rfl, rfl, rfl, rfl, rfl, rfl, rfl, rfl, trivial⟩)
  · exact q_tswI F (off := 315) 357 dL_step_42 (by decide +kernel) (by decide +kernel) (by decide +kernel) rfl (q_to (t_sight F hr hst hB hI hcI hA1 hb2) ⟨rfl, rfl, rfl, rfl, rfl, rfl, rfl, rfl, trivial⟩)
  · exact q_tswI F (off := 364) 406 dL_step_42 (by decide +kernel) (by decide +kernel) (by decide +kernel) rfl (q_to (t_answers F hr hst hB hI hcI hA1 hb2) ⟨rfl, rfl, rfl, rfl, rfl, rfl, rfl, rfl, trivial⟩)
  · exact q_tswI F (off := 364) 406 dL_step_42 (by decide +kernel) (by decide +kernel) (by decide +kernel) rfl (q_to (t_answers F hr hst hB hI hcI hA1 hb2) ⟨rfl, rfl, rfl, rfl, rfl, rfl, rfl, rfl, trivial⟩)
  · exact q_tswI F (off := 364) 406 dL_step_42 (by decide +kernel) (by decide +kernel) (by decide +kernel) rfl (q_to (t_answers F hr hst hB hI hcI hA1 hb2) ⟨rfl, rfl, rfl, rfl, rfl, rfl, rfl, rfl, trivial⟩)
  · exact q_tswI F (off := 399) 441 dL_step_42 (by decide +kernel) (by decide +kernel) (by decide +kernel) rfl (q_to (t_turns F hr hst hB hI hcI hA1 hb2) ⟨rfl, rfl, rfl, rfl, rfl, rfl, rfl, rfl, trivial⟩)
  · exact q_tswI F (off := 430) 472 dL_step_42 (by decide +kernel) (by decide +kernel) (by decide +kernel) rfl (q_to (t_pass F hr hst hB hI hcI hA1 hb2) ⟨rfl, rfl, rfl, rfl, rfl, rfl, rfl, rfl, trivial⟩)
  · exact q_tswO F 545 dL_step_42 (Or.inr (by decide +kernel)) rfl (q_to (t_other F hr hst hB hI hcI hA1 hb2) ⟨rfl, rfl, rfl, rfl, rfl, rfl, rfl, rfl, trivial⟩)

set_option maxHeartbeats 4000000 in
set_option maxRecDepth 100000 in
theorem c_L_draw {l : Launch} {g : hG} {X : va_W} {S : hS} {b L : Nat} {xs : Nat → Int32} (hbA : b < g.2.2) (hL : L < 2 ^ 31) {k : Nat} (hk : k < L) : hMetZ b L xs l yL_draw wsL_draw rm_L_draw g X S [.ref b, .int (nI k)] (pI (xs k &&& 2147483647) S) := by
  refine h_startZ (maxL := 2) (ret := (some .int)) (by decide) rfl (Nat.le_of_ble_eq_true rfl) ?_
  intro p e s m args below meth c F hr hX hb
  refine q_iload_n F 1 dL_draw_0 rfl rfl ?_
  refine q_aload_n F 0 dL_draw_1 rfl rfl ?_
  refine q_slen F hX hb hbA dL_draw_2 ?_
  refine q_icmp_ge F 15 dL_draw_3 rfl (fun c3 => absurd c3 (nI_ge hk hL)) (fun c3 => ?_)
  refine q_aload_n F 0 dL_draw_6 rfl rfl ?_
  refine q_iload_n F 1 dL_draw_7 rfl rfl ?_
  refine q_sld F hX hb hbA rfl hk hL dL_draw_8 ?_
  refine q_ldc F (v := 2147483647) (List.mem_of_getElem? (i := 1) rfl) dL_draw_9 ?_
  refine q_iand F dL_draw_11 ?_
  refine q_goto F 24 dL_draw_12 rfl ?_
  exact (q_reti F hr rfl dL_draw_24 (Nat.le_of_ble_eq_true rfl) (Nat.le_of_ble_eq_true rfl) ⟨rfl, rfl⟩)
theorem dr_nat (x : Int32) : ∃ j : Nat, j < 2 ^ 31 ∧ x &&& 2147483647 = nI j := pk_andE x 31 (by decide)
def lw_S0 : hS := ([], fun _ => 0, fun _ _ => 0, fun _ _ => none, fun _ => 0, fun _ _ => 0, fun _ _ => none)

set_option maxHeartbeats 4000000 in
set_option maxRecDepth 100000 in
theorem k_loop {p : Program} {l : Launch} {e : Env} {s : State} {m : MethodId} {args : Array Value} {below : List Frame} {meth : Method} {c : Code} {g : hG} {Q : State → Prop} {b L : Nat} {xs : Nat → Int32} (F : hF p l s m args meth c cL_law 8 wsL_law RL g) (hst : l.stackTraces = false) (hX : va_X b L xs s s.heap) (hb : b < s.heap.size) (hbA : b < g.2.2) (hL : L ≤ 260) {N9 : Nat} (hN9 : 3 * N9 ≤ L) (kend : ∀ (S' : hS) (lv' : List (Nat × Value)) (cells' slots' : Nat), cells' ≤ room_1.cells → slots' ≤ room_1.slots → V p l e room_1 s m args below meth c 8 g [] Q S' cells' slots' lv' 163 [.int 1]) : ∀ (r k : Nat) (S : hS) (h cA cells slots : Nat), k + r = N9 → cells + 1120 * r ≤ 95000 → slots + 6720 * r ≤ 600000 → lW S h cA → V p l e room_1 s m args below meth c 8 g [] Q S cells slots [(0, .ref b), (1, .ref h), (2, .ref cA), (3, .int 1), (4, .int (nI N9)), (5, .int (nI k))] 78 [] := by
  intro r
  induction r with
  | zero =>
    intro k S h cA cells slots hkr hcz hsz hW
    refine q_iload F dL_law_78 rfl ?_
    refine q_iload F dL_law_80 rfl ?_
    refine q_icmp_ge F 162 dL_law_82 rfl (fun c82 => ?_) (fun c82 => absurd c82 (gT rfl rfl (show N9 ≤ k by omega) (by omega)))
    refine q_iload_n F 3 dL_law_162 rfl rfl ?_
    exact kend _ _ _ _ (Nat.le_trans (show cells ≤ 95000 by omega) (Nat.le_of_ble_eq_true rfl)) (Nat.le_trans (show slots ≤ 600000 by omega) (Nat.le_of_ble_eq_true rfl))
  | succ r ih =>
    intro k S h cA cells slots hkr hcz hsz hW
    obtain ⟨f, bk, ca, sa, ad, pa, sc, M, n, nc, ns, hB, hI, hcI⟩ := hW
    have hc1 : cells + 1120 ≤ room_1.cells := Nat.le_trans (show cells + 1120 ≤ 95000 by omega) (Nat.le_of_ble_eq_true rfl)
    have hs1 : slots + 6720 ≤ room_1.slots := Nat.le_trans (show slots + 6720 ≤ 600000 by omega) (Nat.le_of_ble_eq_true rfl)
    refine q_iload F dL_law_78 rfl ?_
    refine q_iload F dL_law_80 rfl ?_
    refine q_icmp_ge F 162 dL_law_82 rfl (fun c82 => absurd c82 (gF rfl rfl (show k < N9 by omega) (by omega))) (fun c82 => ?_)
    refine q_iload_n F 3 dL_law_85 rfl rfl ?_
    refine q_if_eq F 162 dL_law_86 rfl (fun c86 => absurd c86 (by decide)) (fun c86 => ?_)
    refine q_aload_n F 0 dL_law_89 rfl rfl ?_
    refine q_iconst F dL_law_90 hc_3 ?_
    refine q_iload F dL_law_91 rfl ?_
    refine q_imul F dL_law_93 ?_
    refine q_iconst F dL_law_94 hc_1 ?_
    refine q_iadd F dL_law_95 ?_
    refine q_top (v' := .int (nI (3 * k + 1))) ?_ (congrArg Value.int (by rw [show (3 : Int32) = nI 3 from rfl, pk_mul]; exact nI_add _ 1))
    refine q_callZ_i F hX hb hbA (c_L_draw hbA (by omega) (show 3 * k + 1 < L by omega)) gL_law_L_draw rfl hd_L_draw ⟨Nat.le_of_ble_eq_true rfl, Nat.le_of_ble_eq_true rfl⟩ rfl rfl (Nat.le_of_ble_eq_true rfl) dL_law_96 ⟨Nat.le_trans (lw_b1 (Nat.le_of_ble_eq_true rfl)) hc1, Nat.le_trans (lw_b1 (Nat.le_of_ble_eq_true rfl)) hs1⟩ ?_
    obtain ⟨A, hA1, eA⟩ := dr_nat (xs (3 * k + 1))
    refine q_top (v' := .int (nI A)) ?_ (congrArg Value.int eA)
    refine q_istore F dL_law_99 (by decide) rfl ?_
    refine q_aload_n F 0 dL_law_101 rfl rfl ?_
    refine q_iconst F dL_law_102 hc_3 ?_
    refine q_iload F dL_law_103 rfl ?_
    refine q_imul F dL_law_105 ?_
    refine q_iconst F dL_law_106 hc_2 ?_
    refine q_iadd F dL_law_107 ?_
    refine q_top (v' := .int (nI (3 * k + 2))) ?_ (congrArg Value.int (by rw [show (3 : Int32) = nI 3 from rfl, pk_mul]; exact nI_add _ 2))
    refine q_callZ_i F hX hb hbA (c_L_draw hbA (by omega) (show 3 * k + 2 < L by omega)) gL_law_L_draw rfl hd_L_draw ⟨Nat.le_of_ble_eq_true rfl, Nat.le_of_ble_eq_true rfl⟩ rfl rfl (Nat.le_of_ble_eq_true rfl) dL_law_108 ⟨Nat.le_trans (lw_b2 (Nat.le_of_ble_eq_true rfl)) hc1, Nat.le_trans (lw_b2 (Nat.le_of_ble_eq_true rfl)) hs1⟩ ?_
    obtain ⟨B, hb2, eB⟩ := dr_nat (xs (3 * k + 2))
    refine q_top (v' := .int (nI B)) ?_ (congrArg Value.int eB)
    refine q_istore F dL_law_111 (by decide) rfl ?_
    refine q_aload_n F 1 dL_law_113 rfl rfl ?_
    refine q_aload_n F 2 dL_law_114 rfl rfl ?_
    refine q_aload_n F 0 dL_law_115 rfl rfl ?_
    refine q_iconst F dL_law_116 hc_3 ?_
    refine q_iload F dL_law_117 rfl ?_
    refine q_imul F dL_law_119 ?_
    refine q_top (v' := .int (nI (3 * k))) ?_ (congrArg Value.int (pk_mul 3 k))
    refine q_callZ_i F hX hb hbA (c_L_draw hbA (by omega) (show 3 * k < L by omega)) gL_law_L_draw rfl hd_L_draw ⟨Nat.le_of_ble_eq_true rfl, Nat.le_of_ble_eq_true rfl⟩ rfl rfl (Nat.le_of_ble_eq_true rfl) dL_law_120 ⟨Nat.le_trans (lw_b3 (Nat.le_of_ble_eq_true rfl)) hc1, Nat.le_trans (lw_b3 (Nat.le_of_ble_eq_true rfl)) hs1⟩ ?_
    obtain ⟨W1, hW1, eW1⟩ := dr_nat (xs (3 * k))
    refine q_top (v' := .int (nI W1)) ?_ (congrArg Value.int eW1)
    refine q_iload F dL_law_123 rfl ?_
    refine q_iload F dL_law_125 rfl ?_
    refine q_callS_gi F (c_L_step hst hB hI hcI hW1 hA1 hb2) gL_law_L_step rfl hd_L_step ⟨Nat.le_of_ble_eq_true rfl, Nat.le_of_ble_eq_true rfl⟩ rfl rfl (Nat.le_of_ble_eq_true rfl) dL_law_127 ⟨Nat.le_trans (lw_b4 (Nat.le_of_ble_eq_true rfl)) hc1, Nat.le_trans (lw_b4 (Nat.le_of_ble_eq_true rfl)) hs1⟩ (fun r1 S1 hp => ?_)
    obtain ⟨rfl, hW⟩ := hp
    obtain ⟨f, bk, ca, sa, ad, pa, sc, M, n, nc, ns, hB, hI, hcI⟩ := hW
    refine q_if_eq F 154 dL_law_130 rfl (fun c130 => absurd c130 (by decide)) (fun c130 => ?_)
    refine q_aload_n F 1 dL_law_133 rfl rfl ?_
    refine q_aload_n F 2 dL_law_134 rfl rfl ?_
    refine q_iload F dL_law_135 rfl ?_
    refine q_iconst F dL_law_137 hc_5 ?_
    refine q_idiv F dL_law_138 (by decide) ?_
    refine q_top (v' := .int (nI (A / 5))) ?_ (congrArg Value.int (pk_div (d := 5) (by omega) (by decide) (by decide)))
    refine q_iload F dL_law_139 rfl ?_
    refine q_bipush (v := 7) F dL_law_141 (by decide) ?_
    refine q_idiv F dL_law_143 (by decide) ?_
    refine q_top (v' := .int (nI (B / 7))) ?_ (congrArg Value.int (pk_div (d := 7) (by omega) (by decide) (by decide)))
    refine q_callS_i F (c_L_isBook hst hB hI hcI (show A / 5 < 2 ^ 31 by omega) (show B / 7 < 2 ^ 31 by omega)) gL_law_L_isBook rfl hd_L_isBook ⟨Nat.le_of_ble_eq_true rfl, Nat.le_of_ble_eq_true rfl⟩ rfl rfl (Nat.le_of_ble_eq_true rfl) dL_law_144 ⟨Nat.le_trans (lw_b5 (Nat.le_of_ble_eq_true rfl)) hc1, Nat.le_trans (lw_b5 (Nat.le_of_ble_eq_true rfl)) hs1⟩ ?_
    refine q_if_eq F 154 dL_law_147 rfl (fun c147 => absurd c147 (by decide)) (fun c147 => ?_)
    refine q_iconst F dL_law_150 hc_1 ?_
    refine q_goto F 155 dL_law_151 rfl ?_
    refine q_istore_n F 3 dL_law_155 rfl (by decide) rfl ?_
    refine q_iinc F (nI (k + 1)) dL_law_156 rfl (nI_inc k) (by decide) rfl ?_
    refine q_goto F 78 dL_law_159 rfl ?_
    exact q_widen (lw_b5 (Nat.le_of_ble_eq_true rfl)) (lw_b5 (Nat.le_of_ble_eq_true rfl)) (q_to (ih (k + 1) S1 h cA (cells + 1120) (slots + 6720) (by omega) (by omega) (by omega) ⟨_, _, _, _, _, _, _, _, _, _, _, hB, hI, hcI⟩) ⟨rfl, rfl, rfl, rfl, rfl, rfl, trivial⟩)

set_option maxHeartbeats 4000000 in
set_option maxRecDepth 100000 in
theorem k_start {p : Program} {l : Launch} {e : Env} {s : State} {m : MethodId} {args : Array Value} {below : List Frame} {meth : Method} {c : Code} {g : hG} {Q : State → Prop} {b L : Nat} {xs : Nat → Int32} (F : hF p l s m args meth c cL_law 8 wsL_law RL g) (hst : l.stackTraces = false) (hX : va_X b L xs s s.heap) (hb : b < s.heap.size) (hbA : b < g.2.2) (hL : L ≤ 260) (kend : ∀ (S' : hS) (lv' : List (Nat × Value)) (cells' slots' : Nat), cells' ≤ room_1.cells → slots' ≤ room_1.slots → V p l e room_1 s m args below meth c 8 g [] Q S' cells' slots' lv' 163 [.int 1]) : V p l e room_1 s m args below meth c 8 g [] Q lw_S0 0 0 [(0, .ref b)] 0 [] := by
  refine qn_L_21 F ⟨Nat.le_of_ble_eq_true rfl, Nat.le_of_ble_eq_true rfl⟩ dL_law_0 (fun h hq => ?_)
  refine q_dup F dL_law_3 rfl ?_
  refine q_callI_gv F (c_X4_init (isO_nO _ 4 h) (fun x => by rw [sF_nO, if_pos rfl])) gL_law_X4_init rfl hd_X4_init ⟨Nat.le_of_ble_eq_true rfl, Nat.le_of_ble_eq_true rfl⟩ (List.mem_of_getElem? (i := 2) (by decide +kernel)) (List.mem_of_getElem? (i := 4) (by decide +kernel)) (List.mem_of_getElem? (i := 5) (by decide +kernel)) rfl rfl rfl (Nat.le_of_ble_eq_true rfl) dL_law_4 ⟨Nat.le_of_ble_eq_true rfl, Nat.le_of_ble_eq_true rfl⟩ (fun S1 hp1 => ?_)
  obtain ⟨bk, ca, sa, ad, pa, hP⟩ := hp1
  refine q_astore_n F 1 dL_law_7 rfl (by decide) rfl ?_
  refine q_bipush (v := 48) F dL_law_8 (by decide) ?_
  refine qn_int_48 F ⟨Nat.le_of_ble_eq_true rfl, Nat.le_of_ble_eq_true rfl⟩ dL_law_10 (fun cA hcA => ?_)
  have hB : lB (nA S1 6 cA 48) h cA (fun _ => 0) bk ca sa ad pa sc0 M0 0 0 0 := ⟨cG_md hP.1 (mdN_nA hcA), cC_md hP.1 hP.2.1 (mdN_nA hcA), isO_nA _ _ _ _, sN_nA_self _ _ _ _, by funext j; rw [sA_nA, if_pos rfl]⟩
  refine q_astore_n F 2 dL_law_12 rfl (by decide) rfl ?_
  refine q_aload_n F 2 dL_law_13 rfl rfl ?_
  refine q_iconst F dL_law_14 hc_4 ?_
  refine q_iconst F dL_law_15 hc_1 ?_
  refine q_cst F hB 4 rfl (by decide) dL_law_16 (fun S2 hB => ?_)
  have hI : lI sc0 M0 0 := ⟨jI_0, ⟨by decide, by decide⟩, fun i hi => absurd hi (Nat.not_lt_zero i)⟩
  have hcI : cI (va_up (fun _ => 0) 4 1) sc0 M0 0 0 0 := ⟨rfl, rfl, rfl, rfl, rfl, by decide, fun i hi => absurd hi (Nat.not_lt_zero i)⟩
  refine q_aload_n F 1 dL_law_17 rfl rfl ?_
  refine q_callV_i F (n_lines hB) gL_law_X4_lines rfl hd_X4_lines ⟨Nat.le_of_ble_eq_true rfl, Nat.le_of_ble_eq_true rfl⟩ (lB_o hB) rfl rfl rfl (Nat.le_of_ble_eq_true rfl) dL_law_18 ⟨Nat.le_of_ble_eq_true rfl, Nat.le_of_ble_eq_true rfl⟩ ?_
  refine q_if_ne F 53 dL_law_21 rfl (fun c21 => absurd c21 (not_not_intro rfl)) (fun c21 => ?_)
  refine q_aload_n F 1 dL_law_24 rfl rfl ?_
  refine q_callV_i F (n_day hB) gL_law_X4_day rfl hd_X4_day ⟨Nat.le_of_ble_eq_true rfl, Nat.le_of_ble_eq_true rfl⟩ (lB_o hB) rfl rfl rfl (Nat.le_of_ble_eq_true rfl) dL_law_25 ⟨Nat.le_of_ble_eq_true rfl, Nat.le_of_ble_eq_true rfl⟩ ?_
  refine q_if_ne F 53 dL_law_28 rfl (fun c28 => absurd c28 (not_not_intro rfl)) (fun c28 => ?_)
  refine q_aload_n F 1 dL_law_31 rfl rfl ?_
  refine q_callV_i F (n_waiting hB) gL_law_X4_waiting rfl hd_X4_waiting ⟨Nat.le_of_ble_eq_true rfl, Nat.le_of_ble_eq_true rfl⟩ (lB_o hB) rfl rfl rfl (Nat.le_of_ble_eq_true rfl) dL_law_32 ⟨Nat.le_of_ble_eq_true rfl, Nat.le_of_ble_eq_true rfl⟩ ?_
  refine q_iconst F dL_law_35 hc_m1 ?_
  refine q_icmp_ne F 53 dL_law_36 rfl (fun c36 => absurd c36 (not_not_intro rfl)) (fun c36 => ?_)
  refine q_aload_n F 1 dL_law_39 rfl rfl ?_
  refine q_iconst F dL_law_40 hc_0 ?_
  refine q_iconst F dL_law_41 hc_0 ?_
  refine q_callV_i F (n_find hst hB (by decide)) gL_law_X4_find rfl hd_X4_find ⟨Nat.le_of_ble_eq_true rfl, Nat.le_of_ble_eq_true rfl⟩ (lB_o hB) rfl rfl rfl (Nat.le_of_ble_eq_true rfl) dL_law_42 ⟨Nat.le_of_ble_eq_true rfl, Nat.le_of_ble_eq_true rfl⟩ ?_
  refine q_iconst F dL_law_45 hc_m1 ?_
  refine q_icmp_ne F 53 dL_law_46 rfl (fun c46 => absurd c46 (not_not_intro rfl)) (fun c46 => ?_)
  refine q_iconst F dL_law_49 hc_1 ?_
  refine q_goto F 54 dL_law_50 rfl ?_
  refine q_istore_n F 3 dL_law_54 rfl (by decide) rfl ?_
  refine q_cutB (tgt := 73) (st1 := []) (k := 200) (n := 1000) (.int (nI (min (L / 3) 80))) (fun K55 => ?_) ?_
  · refine q_aload_n F 0 dL_law_55 rfl rfl ?_
    refine q_slen F hX hb hbA dL_law_56 ?_
    refine q_iconst F dL_law_57 hc_3 ?_
    refine q_idiv F dL_law_58 (by decide) ?_
    refine q_top (v' := .int (nI (L / 3))) ?_ (congrArg Value.int (pk_div (d := 3) (by omega) (by decide) (by decide)))
    refine q_bipush (v := 80) F dL_law_59 (by decide) ?_
    refine q_icmp_le F 69 dL_law_61 rfl (fun c61 => ?_) (fun c61 => ?_)
    · refine q_aload_n F 0 dL_law_69 rfl rfl ?_
      refine q_slen F hX hb hbA dL_law_70 ?_
      refine q_iconst F dL_law_71 hc_3 ?_
      refine q_idiv F dL_law_72 (by decide) ?_
      refine q_top (v' := .int (nI (L / 3))) ?_ (congrArg Value.int (pk_div (d := 3) (by omega) (by decide) (by decide)))
      exact q_widen (Nat.le_of_ble_eq_true rfl) (Nat.le_of_ble_eq_true rfl) (q_top K55 (congrArg Value.int (congrArg nI (by rw [show (80 : Int32) = nI 80 from rfl, nI_leI (by omega) (by decide)] at c61; omega))))
    refine q_bipush (v := 80) F dL_law_64 (by decide) ?_
    refine q_goto F 73 dL_law_66 rfl ?_
    exact q_widen (Nat.le_of_ble_eq_true rfl) (Nat.le_of_ble_eq_true rfl) (q_top K55 (congrArg Value.int (show nI 80 = _ from congrArg nI (by rw [show (80 : Int32) = nI 80 from rfl, nI_leI (by omega) (by decide)] at c61; omega))))
  refine q_istore F dL_law_73 (by decide) rfl ?_
  refine q_iconst F dL_law_75 hc_0 ?_
  refine q_istore F dL_law_76 (by decide) rfl ?_
  exact q_to (k_loop F hst hX hb hbA hL (N9 := min (L / 3) 80) (by omega) kend (min (L / 3) 80) 0 S2 h cA 200 1000 (by omega) (by omega) (by omega) ⟨_, _, _, _, _, _, _, _, _, _, _, hB, hI, hcI⟩) ⟨rfl, rfl, rfl, rfl, rfl, rfl, trivial⟩

