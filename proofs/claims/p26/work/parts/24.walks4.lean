theorem tlB_f1 {M : Nat → Nat → Int32} {day old name port : Int32} {i : Nat} (h : (decide (M 6 i = 0) && !en day (M 8 i)) = false) : tlB M day old name port i = false := by unfold tlB; rw [h]; rfl
theorem tlB_f2 {M : Nat → Nat → Int32} {day old name port : Int32} {i : Nat} (h : ¬ M 5 i = old) : tlB M day old name port i = false := by unfold tlB; rw [decide_eq_false h]; simp
theorem tlB_f3 {M : Nat → Nat → Int32} {day old name port : Int32} {i : Nat} (h : mt M i name port = false) : tlB M day old name port i = false := by unfold tlB; rw [h, Bool.and_false]
theorem tlB_t {M : Nat → Nat → Int32} {day old name port : Int32} {i : Nat} (h1 : (decide (M 6 i = 0) && !en day (M 8 i)) = true) (h2 : M 5 i = old) (h3 : mt M i name port = true) : tlB M day old name port i = true := by unfold tlB; rw [h1, decide_eq_true h2, h3]; rfl

set_option maxHeartbeats 4000000 in
set_option maxRecDepth 100000 in
theorem c_X4_turnLines {l : Launch} {g : hG} {X : va_W} {S : hS} {h bk ca sa : Nat} {ad pa : Nat → Nat} {sc : Nat → Int32} {M : Nat → Nat → Int32} {n nc ns : Nat} (hG : cG S h bk ca sa ad pa) (hC : cC S h ca sa ad pa sc M n nc ns) {name port old other days : Int32} : hMet l yX4_turnLines wsX4_turnLines rm_X4_turnLines g X S [.ref h, .int name, .int port, .int old, .int other, .int days] (pGI (fun r S' => r = nI ((tl (sc 1) name port old other days (M, n) n).2 - n) ∧ cP S S' h bk ca sa ad pa (scN sc (tl (sc 1) name port old other days (M, n) n).2) (tl (sc 1) name port old other days (M, n) n).1 (tl (sc 1) name port old other days (M, n) n).2 nc ns)) := by
  refine h_start (maxL := 9) (ret := (some .int)) (by decide) rfl (Nat.le_of_ble_eq_true rfl) ?_
  intro p e s m args below meth c F hr hinit
  have hn40 := hC.1.2.2
  have h410 : sF S 41 h = nI n := hC.1.1
  refine q_aload_n F 0 dX4_turnLines_0 rfl rfl ?_
  refine qg_X4_47 F hG.1 dX4_turnLines_1 ?_
  refine q_top (v' := .int (nI n)) ?_ (congrArg Value.int h410)
  refine q_istore F dX4_turnLines_4 (by decide) rfl ?_
  refine q_iconst F dX4_turnLines_6 hc_0 ?_
  refine q_istore F dX4_turnLines_7 (by decide) rfl ?_
  have L : ∀ (r j : Nat) (S1 : hS) (M1 : Nat → Nat → Int32) (n1 : Nat), j + r = n → tl (sc 1) name port old other days (M, n) j = (M1, n1) → cP S S1 h bk ca sa ad pa (scN sc n1) M1 n1 nc ns → V p l e rm_X4_turnLines s m args below meth c 9 g X (MQ below (hQ g X (pGI (fun r S' => r = nI ((tl (sc 1) name port old other days (M, n) n).2 - n) ∧ cP S S' h bk ca sa ad pa (scN sc (tl (sc 1) name port old other days (M, n) n).2) (tl (sc 1) name port old other days (M, n) n).1 (tl (sc 1) name port old other days (M, n) n).2 nc ns))) args s rm_X4_turnLines.cells rm_X4_turnLines.slots (hA g)) S1 0 0 [(0, .ref h), (1, .int name), (2, .int port), (3, .int old), (4, .int other), (5, .int days), (6, .int (nI n)), (7, .int (nI j))] 9 [] := by
    intro r
    induction r with
    | zero =>
      intro j S1 M1 n1 hjr hT hD
      have hjn : j = n := by omega
      obtain ⟨hG, hC, hcl⟩ := id hD
      have hO4 := hG.1
      have hn1 := hC.1.2.2
      have hnn : n ≤ n1 := by have := tl_ge (day := sc 1) (name := name) (port := port) (old := old) (other := other) (days := days) (T := (M, n)) j; rw [hT] at this; exact this
      have h41 : sF S1 41 h = nI n1 := hC.1.1
      have hfin := hT
      rw [hjn] at hfin
      refine q_iload F dX4_turnLines_9 rfl ?_
      refine q_iload F dX4_turnLines_11 rfl ?_
      refine q_icmp_ge F 92 dX4_turnLines_13 rfl (fun c13 => ?_) (fun c13 => ?_)
      · refine q_aload_n F 0 dX4_turnLines_92 rfl rfl ?_
        refine qg_X4_47 F hG.1 dX4_turnLines_93 ?_
        refine q_iload F dX4_turnLines_96 rfl ?_
        refine q_isub F dX4_turnLines_98 ?_
        refine q_top (v' := .int (nI (n1 - n))) ?_ (congrArg Value.int (by rw [h41]; exact nI_sub hnn))
        exact (q_reti F hr rfl dX4_turnLines_99 (Nat.le_of_ble_eq_true rfl) (Nat.le_of_ble_eq_true rfl) ⟨_, rfl, by first | (rw [hfin]; exact ⟨rfl, hD⟩) | (have hf : ¬ n1 < 40 := nlt_of_nI (N := 40) h41 (by omega) (by omega) (fun z => Int32.not_le.mpr z c22); have hq := tl_full (day := sc 1) (name := name) (port := port) (old := old) (other := other) (days := days) (T := (M, n)) (j := j) (by rw [hT]; exact hf) (r + 1); rw [show j + (r + 1) = n by omega, hT] at hq; rw [hq]; exact ⟨rfl, hD⟩)⟩)
      exact absurd c13 (gT rfl rfl (show n ≤ j by omega) (by omega))
    | succ r ih =>
      intro j S1 M1 n1 hjr hT hD
      have hj : j < n := by omega
      obtain ⟨hG, hC, hcl⟩ := id hD
      have hO4 := hG.1
      have hn1 := hC.1.2.2
      have hnn : n ≤ n1 := by have := tl_ge (day := sc 1) (name := name) (port := port) (old := old) (other := other) (days := days) (T := (M, n)) j; rw [hT] at this; exact this
      have h41 : sF S1 41 h = nI n1 := hC.1.1
      have hi40 : j < 40 := by omega
      obtain ⟨pt, k, hL⟩ := hC.2.1 j (by omega)
      have hday0 : sF S1 46 h = sc 1 := by rw [hC.2.2.2.2.1.1, scN_ne (by decide)]
      refine q_iload F dX4_turnLines_9 rfl ?_
      refine q_iload F dX4_turnLines_11 rfl ?_
      refine q_icmp_ge F 92 dX4_turnLines_13 rfl (fun c13 => ?_) (fun c13 => ?_)
      · exact absurd c13 (gF rfl rfl hj (by omega))
      refine q_aload_n F 0 dX4_turnLines_16 rfl rfl ?_
      refine qg_X4_47 F hG.1 dX4_turnLines_17 ?_
      refine q_bipush (v := 40) F dX4_turnLines_20 (by decide) ?_
      refine q_icmp_ge F 92 dX4_turnLines_22 rfl (fun c22 => ?_) (fun c22 => ?_)
      · refine q_aload_n F 0 dX4_turnLines_92 rfl rfl ?_
        refine qg_X4_47 F hG.1 dX4_turnLines_93 ?_
        refine q_iload F dX4_turnLines_96 rfl ?_
        refine q_isub F dX4_turnLines_98 ?_
        refine q_top (v' := .int (nI (n1 - n))) ?_ (congrArg Value.int (by rw [h41]; exact nI_sub hnn))
        exact (q_reti F hr rfl dX4_turnLines_99 (Nat.le_of_ble_eq_true rfl) (Nat.le_of_ble_eq_true rfl) ⟨_, rfl, by first | (rw [hfin]; exact ⟨rfl, hD⟩) | (have hf : ¬ n1 < 40 := nlt_of_nI (N := 40) h41 (by omega) (by omega) (fun z => Int32.not_le.mpr z c22); have hq := tl_full (day := sc 1) (name := name) (port := port) (old := old) (other := other) (days := days) (T := (M, n)) (j := j) (by rw [hT]; exact hf) (r + 1); rw [show j + (r + 1) = n by omega, hT] at hq; rw [hq]; exact ⟨rfl, hD⟩)⟩)
      refine q_aload_n F 0 dX4_turnLines_25 rfl rfl ?_
      refine qg_X4_11 F hG.2.1.1 hG.1 dX4_turnLines_26 ?_
      refine q_iload F dX4_turnLines_29 rfl ?_
      refine q_aald_l F hG.2.1.2.1 hG.2.1.2.2 rfl hi40 (by decide) (hG.2.2.2.2.1 _ hi40).1 dX4_turnLines_31 ?_
      refine q_astore F dX4_turnLines_32 (by decide) rfl ?_
      refine q_aload_n F 0 dX4_turnLines_34 rfl rfl ?_
      refine q_aload F dX4_turnLines_35 rfl ?_
      refine q_callV_i F (c_X4_isLivePlain hG.1 (hG.2.2.2.2.1 _ hi40).2.1) gX4_turnLines_X4_isLivePlain rfl hd_X4_isLivePlain ⟨Nat.le_of_ble_eq_true rfl, Nat.le_of_ble_eq_true rfl⟩ hG.1 rfl rfl rfl (Nat.le_of_ble_eq_true rfl) dX4_turnLines_37 ⟨Nat.le_of_ble_eq_true rfl, Nat.le_of_ble_eq_true rfl⟩ ?_
      refine q_if_eq F 86 dX4_turnLines_40 rfl (fun c40 => ?_) (fun c40 => ?_)
      · refine q_iinc F (nI (j + 1)) dX4_turnLines_86 rfl (nI_inc j) (by decide) rfl ?_
        refine q_goto F 9 dX4_turnLines_89 rfl ?_
        first
          | exact q_to (ih (j + 1) _ _ _ (by omega) ((tl_s0 hT (by first | exact tlB_f1 (by rw [← hL.1.1, ← hL.1.2.2.2, ← hday0]; exact b2_0.mp c40) | exact tlB_f2 (by rw [← hL.1.2.1]; exact c49) | exact tlB_f3 (b2_0.mp c59)))) hD) ⟨rfl, rfl, rfl, rfl, rfl, rfl, rfl, rfl, trivial⟩
          | (obtain ⟨hG4, hC4, hc4⟩ := cC_end (d := sc 1 + days) hG hC3 (show j < n1 + 1 by omega)
             rw [scN_scN] at hC4
             refine q_to (ih (j + 1) _ _ _ (by omega) (tl_s1 hT hlt (tlB_t (by rw [← hL.1.1, ← hL.1.2.2.2, ← hday0]; exact b2_n0 c40) (by rw [← hL.1.2.1]; exact c49) (b2_n0 c59))) ?_) ⟨rfl, rfl, rfl, rfl, rfl, rfl, rfl, rfl, trivial⟩
             have e8 : aLike (aAdd M1 n1 0 other (sc 1)) n1 j 8 j = M1 8 j := by rw [aLike_ne (by decide) (by omega), aAdd_ne (by omega)]
             have es : scN sc n1 1 = sc 1 := scN_ne (by decide)
             rw [es, e8] at hC4
             exact ⟨hG4, hC4, hcl.trans (hc2.trans (hc3.trans hc4))⟩)
      refine q_aload F dX4_turnLines_43 rfl ?_
      refine qg_X4_65 F (hG.2.2.2.2.1 _ hi40).2.1 dX4_turnLines_45 ?_
      refine q_iload_n F 3 dX4_turnLines_48 rfl rfl ?_
      refine q_icmp_ne F 86 dX4_turnLines_49 rfl (fun c49 => ?_) (fun c49 => ?_)
      · refine q_iinc F (nI (j + 1)) dX4_turnLines_86 rfl (nI_inc j) (by decide) rfl ?_
        refine q_goto F 9 dX4_turnLines_89 rfl ?_
        first
          | exact q_to (ih (j + 1) _ _ _ (by omega) ((tl_s0 hT (by first | exact tlB_f1 (by rw [← hL.1.1, ← hL.1.2.2.2, ← hday0]; exact b2_0.mp c40) | exact tlB_f2 (by rw [← hL.1.2.1]; exact c49) | exact tlB_f3 (b2_0.mp c59)))) hD) ⟨rfl, rfl, rfl, rfl, rfl, rfl, rfl, rfl, trivial⟩
          | (obtain ⟨hG4, hC4, hc4⟩ := cC_end (d := sc 1 + days) hG hC3 (show j < n1 + 1 by omega)
             rw [scN_scN] at hC4
             refine q_to (ih (j + 1) _ _ _ (by omega) (tl_s1 hT hlt (tlB_t (by rw [← hL.1.1, ← hL.1.2.2.2, ← hday0]; exact b2_n0 c40) (by rw [← hL.1.2.1]; exact c49) (b2_n0 c59))) ?_) ⟨rfl, rfl, rfl, rfl, rfl, rfl, rfl, rfl, trivial⟩
             have e8 : aLike (aAdd M1 n1 0 other (sc 1)) n1 j 8 j = M1 8 j := by rw [aLike_ne (by decide) (by omega), aAdd_ne (by omega)]
             have es : scN sc n1 1 = sc 1 := scN_ne (by decide)
             rw [es, e8] at hC4
             exact ⟨hG4, hC4, hcl.trans (hc2.trans (hc3.trans hc4))⟩)
      refine q_aload F dX4_turnLines_52 rfl ?_
      refine q_iload_n F 1 dX4_turnLines_54 rfl rfl ?_
      refine q_iload_n F 2 dX4_turnLines_55 rfl rfl ?_
      refine q_callV_i F (c_X1_covers (hG.2.2.2.2.1 _ hi40).2 hL) gX4_turnLines_X1_covers rfl hd_X1_covers ⟨Nat.le_of_ble_eq_true rfl, Nat.le_of_ble_eq_true rfl⟩ (hG.2.2.2.2.1 _ hi40).2.1 rfl rfl rfl (Nat.le_of_ble_eq_true rfl) dX4_turnLines_56 ⟨Nat.le_of_ble_eq_true rfl, Nat.le_of_ble_eq_true rfl⟩ ?_
      refine q_if_eq F 86 dX4_turnLines_59 rfl (fun c59 => ?_) (fun c59 => ?_)
      · refine q_iinc F (nI (j + 1)) dX4_turnLines_86 rfl (nI_inc j) (by decide) rfl ?_
        refine q_goto F 9 dX4_turnLines_89 rfl ?_
        first
          | exact q_to (ih (j + 1) _ _ _ (by omega) ((tl_s0 hT (by first | exact tlB_f1 (by rw [← hL.1.1, ← hL.1.2.2.2, ← hday0]; exact b2_0.mp c40) | exact tlB_f2 (by rw [← hL.1.2.1]; exact c49) | exact tlB_f3 (b2_0.mp c59)))) hD) ⟨rfl, rfl, rfl, rfl, rfl, rfl, rfl, rfl, trivial⟩
          | (obtain ⟨hG4, hC4, hc4⟩ := cC_end (d := sc 1 + days) hG hC3 (show j < n1 + 1 by omega)
             rw [scN_scN] at hC4
             refine q_to (ih (j + 1) _ _ _ (by omega) (tl_s1 hT hlt (tlB_t (by rw [← hL.1.1, ← hL.1.2.2.2, ← hday0]; exact b2_n0 c40) (by rw [← hL.1.2.1]; exact c49) (b2_n0 c59))) ?_) ⟨rfl, rfl, rfl, rfl, rfl, rfl, rfl, rfl, trivial⟩
             have e8 : aLike (aAdd M1 n1 0 other (sc 1)) n1 j 8 j = M1 8 j := by rw [aLike_ne (by decide) (by omega), aAdd_ne (by omega)]
             have es : scN sc n1 1 = sc 1 := scN_ne (by decide)
             rw [es, e8] at hC4
             exact ⟨hG4, hC4, hcl.trans (hc2.trans (hc3.trans hc4))⟩)
      have hlt : n1 < 40 := lt_of_nI (N := 40) h41 (by omega) (by omega) (by exact Int32.not_le.mp c22)
      refine q_aload_n F 0 dX4_turnLines_62 rfl rfl ?_
      refine q_iconst F dX4_turnLines_63 hc_0 ?_
      refine q_iload F dX4_turnLines_64 rfl ?_
      refine q_callV_a F (c_X4_appendLine0 hG hC hlt) gX4_turnLines_X4_appendLine rfl hd_X4_appendLine ⟨Nat.le_of_ble_eq_true rfl, Nat.le_of_ble_eq_true rfl⟩ hG.1 rfl rfl rfl (Nat.le_of_ble_eq_true rfl) dX4_turnLines_66 ⟨Nat.le_of_ble_eq_true rfl, Nat.le_of_ble_eq_true rfl⟩ ?_
      have hc2 := clF_appS S1 h (ad n1) n1 0 other (scN sc n1 1)
      have hC2 := cC_append (mk := 0) (key := other) (day := scN sc n1 1) hG hC hlt
      have hG := cG_appS (a := ad n1) (n := n1) (mk := 0) (key := other) (day := scN sc n1 1) hG
      obtain ⟨pt2, k2, hL2⟩ := hC2.2.1 j (by omega)
      refine q_aload F dX4_turnLines_69 rfl ?_
      refine q_callV_gv F (c_X1_takeMatching (hG.2.2.2.2.1 n1 hlt).2 (hG.2.2.2.2.1 j hi40).2 (fun z => absurd (hG.2.2.2.2.2.2 _ _ hlt hi40 z) (by omega)) (fun z => absurd (hG.2.2.2.2.2.1 _ _ hlt hi40 z) (by omega)) hL2.2.1.1 hL2.2.1.2.2 (fun t ht => ⟨pt2 t, (hL2.2.2.2 t ht).1, (hL2.2.2.2 t ht).2.1⟩) (isB_ln hL2)) gX4_turnLines_X1_takeMatching rfl hd_X1_takeMatching ⟨Nat.le_of_ble_eq_true rfl, Nat.le_of_ble_eq_true rfl⟩ (hG.2.2.2.2.1 n1 hlt).2.1 rfl rfl rfl (Nat.le_of_ble_eq_true rfl) dX4_turnLines_71 ⟨Nat.le_of_ble_eq_true rfl, Nat.le_of_ble_eq_true rfl⟩ (fun S71 hp71 => ?_)
      obtain ⟨hG, hC3, hc3⟩ := cC_like hG hC2 (Nat.lt_succ_self n1) (fun z => by omega) (by omega) hL2 hp71
      have hday : sF S71 46 h = sc 1 := by rw [hC3.2.2.2.2.1.1, scN_ne (by decide), scN_ne (by decide)]
      refine q_aload F dX4_turnLines_74 rfl ?_
      refine q_aload_n F 0 dX4_turnLines_76 rfl rfl ?_
      refine qg_X4_146 F hG.1 dX4_turnLines_77 ?_
      refine q_top (v' := .int (sc 1)) ?_ (congrArg Value.int hday)
      refine q_iload F dX4_turnLines_80 rfl ?_
      refine q_iadd F dX4_turnLines_82 ?_
      refine q_callV_v F (c_X1_endBy (hG.2.2.2.2.1 _ hi40).2.1) gX4_turnLines_X1_endBy rfl hd_X1_endBy ⟨Nat.le_of_ble_eq_true rfl, Nat.le_of_ble_eq_true rfl⟩ (hG.2.2.2.2.1 _ hi40).2.1 rfl rfl rfl (Nat.le_of_ble_eq_true rfl) dX4_turnLines_83 ⟨Nat.le_of_ble_eq_true rfl, Nat.le_of_ble_eq_true rfl⟩ ?_
      refine q_iinc F (nI (j + 1)) dX4_turnLines_86 rfl (nI_inc j) (by decide) rfl ?_
      refine q_goto F 9 dX4_turnLines_89 rfl ?_
      first
        | exact q_to (ih (j + 1) _ _ _ (by omega) ((tl_s0 hT (by first | exact tlB_f1 (by rw [← hL.1.1, ← hL.1.2.2.2, ← hday0]; exact b2_0.mp c40) | exact tlB_f2 (by rw [← hL.1.2.1]; exact c49) | exact tlB_f3 (b2_0.mp c59)))) hD) ⟨rfl, rfl, rfl, rfl, rfl, rfl, rfl, rfl, trivial⟩
        | (obtain ⟨hG4, hC4, hc4⟩ := cC_end (d := sc 1 + days) hG hC3 (show j < n1 + 1 by omega)
           rw [scN_scN] at hC4
           refine q_to (ih (j + 1) _ _ _ (by omega) (tl_s1 hT hlt (tlB_t (by rw [← hL.1.1, ← hL.1.2.2.2, ← hday0]; exact b2_n0 c40) (by rw [← hL.1.2.1]; exact c49) (b2_n0 c59))) ?_) ⟨rfl, rfl, rfl, rfl, rfl, rfl, rfl, rfl, trivial⟩
           have e8 : aLike (aAdd M1 n1 0 other (sc 1)) n1 j 8 j = M1 8 j := by rw [aLike_ne (by decide) (by omega), aAdd_ne (by omega)]
           have es : scN sc n1 1 = sc 1 := scN_ne (by decide)
           rw [es, e8] at hC4
           exact ⟨hG4, hC4, hcl.trans (hc2.trans (hc3.trans hc4))⟩)
  exact q_to (L n 0 S M n (by omega) rfl ⟨hG, by rw [scN_self hC.1.2.1]; exact hC, clF.rf S⟩) ⟨rfl, rfl, rfl, rfl, rfl, rfl, rfl, rfl, trivial⟩

set_option maxHeartbeats 4000000 in
set_option maxRecDepth 100000 in
theorem c_X4_turn {l : Launch} {g : hG} {X : va_W} {S : hS} (hst : l.stackTraces = false) {h bk ca sa : Nat} {ad pa : Nat → Nat} {sc : Nat → Int32} {M : Nat → Nat → Int32} {n nc ns : Nat} (hG : cG S h bk ca sa ad pa) (hC : cC S h ca sa ad pa sc M n nc ns) {name port old other days : Int32} : hMetX l yX4_turn wsX4_turn rm_X4_turn g X S [.ref h, .int name, .int port, .int old, .int other, .int days] (pGI (fun r S' => ((okNP name port && okK old && okK other && inR days 0 1000 && !decide (old = other)) = true ∧ (decide (jb (sc 1) M name port old (-1) n = 2) && !decide (jb (sc 1) M name port other (-1) n = 0)) = true) ∧ r = nI ((tl (sc 1) name port old other days (M, n) n).2 - n) ∧ cP S S' h bk ca sa ad pa (scN sc (tl (sc 1) name port old other days (M, n) n).2) (tl (sc 1) name port old other days (M, n) n).1 (tl (sc 1) name port old other days (M, n) n).2 nc ns)) (pE S (pe2 (okNP name port && okK old && okK other && inR days 0 1000 && !decide (old = other)) (decide (jb (sc 1) M name port old (-1) n = 2) && !decide (jb (sc 1) M name port other (-1) n = 0)) xIA xIS)) := by
  refine h_startX (maxL := 6) (ret := (some .int)) (by decide) rfl (Nat.le_of_ble_eq_true rfl) ?_
  intro p e s m args below meth c F hr ht
  refine q_iload_n F 1 dX4_turn_0 rfl rfl ?_
  refine q_iload_n F 2 dX4_turn_1 rfl rfl ?_
  refine q_callSX_v F (c_X4_requireNameAndPort hst) gX4_turn_X4_requireNameAndPort rfl hd_X4_requireNameAndPort ⟨Nat.le_of_ble_eq_true rfl, Nat.le_of_ble_eq_true rfl⟩ rfl rfl (Nat.le_of_ble_eq_true rfl) dX4_turn_2 ⟨Nat.le_of_ble_eq_true rfl, Nat.le_of_ble_eq_true rfl⟩ (fun E hE => q_out F ht (Nat.le_of_ble_eq_true rfl) (Nat.le_of_ble_eq_true rfl) ⟨rfl, Or.inl ⟨by rw [hE.1]; rfl, hE.2⟩⟩) (fun k2 => ?_)
  refine q_iload_n F 3 dX4_turn_5 rfl rfl ?_
  refine q_callSX_v F (c_X4_requireKey hst) gX4_turn_X4_requireKey rfl hd_X4_requireKey ⟨Nat.le_of_ble_eq_true rfl, Nat.le_of_ble_eq_true rfl⟩ rfl rfl (Nat.le_of_ble_eq_true rfl) dX4_turn_6 ⟨Nat.le_of_ble_eq_true rfl, Nat.le_of_ble_eq_true rfl⟩ (fun E hE => q_out F ht (Nat.le_of_ble_eq_true rfl) (Nat.le_of_ble_eq_true rfl) ⟨rfl, Or.inl ⟨by rw [hE.1, Bool.and_false]; rfl, hE.2⟩⟩) (fun k6 => ?_)
  refine q_iload F dX4_turn_9 rfl ?_
  refine q_callSX_v F (c_X4_requireKey hst) gX4_turn_X4_requireKey rfl hd_X4_requireKey ⟨Nat.le_of_ble_eq_true rfl, Nat.le_of_ble_eq_true rfl⟩ rfl rfl (Nat.le_of_ble_eq_true rfl) dX4_turn_11 ⟨Nat.le_of_ble_eq_true rfl, Nat.le_of_ble_eq_true rfl⟩ (fun E hE => q_out F ht (Nat.le_of_ble_eq_true rfl) (Nat.le_of_ble_eq_true rfl) ⟨rfl, Or.inl ⟨by rw [hE.1, Bool.and_false]; rfl, hE.2⟩⟩) (fun k11 => ?_)
  refine q_iload F dX4_turn_14 rfl ?_
  refine q_iconst F dX4_turn_16 hc_0 ?_
  refine q_sipush (v := 1000) F dX4_turn_17 (by decide) ?_
  refine q_callSX_v F (c_X4_requireWithin hst) gX4_turn_X4_requireWithin rfl hd_X4_requireWithin ⟨Nat.le_of_ble_eq_true rfl, Nat.le_of_ble_eq_true rfl⟩ rfl rfl (Nat.le_of_ble_eq_true rfl) dX4_turn_20 ⟨Nat.le_of_ble_eq_true rfl, Nat.le_of_ble_eq_true rfl⟩ (fun E hE => q_out F ht (Nat.le_of_ble_eq_true rfl) (Nat.le_of_ble_eq_true rfl) ⟨rfl, Or.inl ⟨by rw [hE.1, Bool.and_false]; rfl, hE.2⟩⟩) (fun k20 => ?_)
  refine q_iload_n F 3 dX4_turn_23 rfl rfl ?_
  refine q_iload F dX4_turn_24 rfl ?_
  refine q_icmp_ne F 39 dX4_turn_26 rfl (fun c26 => ?_) (fun c26 => ?_)
  · refine q_aload_n F 0 dX4_turn_39 rfl rfl ?_
    refine q_iload_n F 1 dX4_turn_40 rfl rfl ?_
    refine q_iload_n F 2 dX4_turn_41 rfl rfl ?_
    refine q_iload_n F 3 dX4_turn_42 rfl rfl ?_
    refine q_iconst F dX4_turn_43 hc_m1 ?_
    refine q_callV_i F (c_X4_judgementByLines hG hC) gX4_turn_X4_judgementByLines rfl hd_X4_judgementByLines ⟨Nat.le_of_ble_eq_true rfl, Nat.le_of_ble_eq_true rfl⟩ hG.1 rfl rfl rfl (Nat.le_of_ble_eq_true rfl) dX4_turn_44 ⟨Nat.le_of_ble_eq_true rfl, Nat.le_of_ble_eq_true rfl⟩ ?_
    refine q_iconst F dX4_turn_47 hc_2 ?_
    refine q_icmp_eq F 61 dX4_turn_48 rfl (fun c48 => ?_) (fun c48 => ?_)
    · refine q_aload_n F 0 dX4_turn_61 rfl rfl ?_
      refine q_iload_n F 1 dX4_turn_62 rfl rfl ?_
      refine q_iload_n F 2 dX4_turn_63 rfl rfl ?_
      refine q_iload F dX4_turn_64 rfl ?_
      refine q_iconst F dX4_turn_66 hc_m1 ?_
      refine q_callV_i F (c_X4_judgementByLines hG hC) gX4_turn_X4_judgementByLines rfl hd_X4_judgementByLines ⟨Nat.le_of_ble_eq_true rfl, Nat.le_of_ble_eq_true rfl⟩ hG.1 rfl rfl rfl (Nat.le_of_ble_eq_true rfl) dX4_turn_67 ⟨Nat.le_of_ble_eq_true rfl, Nat.le_of_ble_eq_true rfl⟩ ?_
      refine q_if_ne F 83 dX4_turn_70 rfl (fun c70 => ?_) (fun c70 => ?_)
      · refine q_aload_n F 0 dX4_turn_83 rfl rfl ?_
        refine q_iload_n F 1 dX4_turn_84 rfl rfl ?_
        refine q_iload_n F 2 dX4_turn_85 rfl rfl ?_
        refine q_iload_n F 3 dX4_turn_86 rfl rfl ?_
        refine q_iload F dX4_turn_87 rfl ?_
        refine q_iload F dX4_turn_89 rfl ?_
        refine q_callV_gi F (c_X4_turnLines hG hC) gX4_turn_X4_turnLines rfl hd_X4_turnLines ⟨Nat.le_of_ble_eq_true rfl, Nat.le_of_ble_eq_true rfl⟩ hG.1 rfl rfl rfl (Nat.le_of_ble_eq_true rfl) dX4_turn_91 ⟨Nat.le_of_ble_eq_true rfl, Nat.le_of_ble_eq_true rfl⟩ (fun r91 S91 hp91 => ?_)
        exact q_x (q_reti F hr rfl dX4_turn_94 (Nat.le_of_ble_eq_true rfl) (Nat.le_of_ble_eq_true rfl) ⟨_, rfl, ⟨(by rw [k2, k6, k11, k20, decide_eq_false c26]; rfl), by rw [decide_eq_true c48, decide_eq_false c70]; rfl⟩, hp91⟩)
      exact qt_X4_140 F hst ht dX4_turn_73 dX4_turn_76 dX4_turn_77 dX4_turn_79 dX4_turn_82 ⟨Nat.le_of_ble_eq_true rfl, Nat.le_of_ble_eq_true rfl⟩ ⟨Nat.le_of_ble_eq_true rfl, Nat.le_of_ble_eq_true rfl⟩ (Nat.le_of_ble_eq_true rfl) (Nat.le_of_ble_eq_true rfl) ⟨rfl, Or.inr ⟨(by rw [k2, k6, k11, k20, decide_eq_false c26]; rfl), by rw [decide_eq_true c70]; exact Bool.and_false _, rfl⟩⟩
    exact qt_X4_138 F hst ht dX4_turn_51 dX4_turn_54 dX4_turn_55 dX4_turn_57 dX4_turn_60 ⟨Nat.le_of_ble_eq_true rfl, Nat.le_of_ble_eq_true rfl⟩ ⟨Nat.le_of_ble_eq_true rfl, Nat.le_of_ble_eq_true rfl⟩ (Nat.le_of_ble_eq_true rfl) (Nat.le_of_ble_eq_true rfl) ⟨rfl, Or.inr ⟨(by rw [k2, k6, k11, k20, decide_eq_false c26]; rfl), by rw [decide_eq_false c48]; rfl, rfl⟩⟩
  exact qt_X4_131 F hst ht dX4_turn_29 dX4_turn_32 dX4_turn_33 dX4_turn_35 dX4_turn_38 ⟨Nat.le_of_ble_eq_true rfl, Nat.le_of_ble_eq_true rfl⟩ ⟨Nat.le_of_ble_eq_true rfl, Nat.le_of_ble_eq_true rfl⟩ (Nat.le_of_ble_eq_true rfl) (Nat.le_of_ble_eq_true rfl) ⟨rfl, Or.inl ⟨by rw [decide_eq_true c26]; exact Bool.and_false _, rfl⟩⟩

theorem clB_eq {S : hS} {h a pa i k : Nat} {pt : Nat → Nat} {M : Nat → Nat → Int32} {day days : Int32} (hL : lnR S a pa pt M i k) (hd : sF S 46 h = day) : (decide (sF S 10 a = 0) && (en (sF S 46 h) (sF S 13 a) || decide (days ≤ sF S 46 h - sF S 12 a))) = clB M day days i := by
  unfold clB
  rw [hd, hL.1.1, hL.1.2.2.1, hL.1.2.2.2]

set_option maxHeartbeats 4000000 in
set_option maxRecDepth 100000 in
theorem c_X4_clean {l : Launch} {g : hG} {X : va_W} {S : hS} (hst : l.stackTraces = false) {h bk ca sa : Nat} {ad pa : Nat → Nat} {sc : Nat → Int32} {M : Nat → Nat → Int32} {n nc ns : Nat} (hG : cG S h bk ca sa ad pa) (hC : cC S h ca sa ad pa sc M n nc ns) {days : Int32} : hMetX l yX4_clean wsX4_clean rm_X4_clean g X S [.ref h, .int days] (pGI (fun r S' => inR days 1 5000 = true ∧ r = nI (n - (cl (sc 1) days n (M, n)).2) ∧ ∃ ad', cP S S' h bk ca sa ad' pa (scN sc (cl (sc 1) days n (M, n)).2) (cl (sc 1) days n (M, n)).1 (cl (sc 1) days n (M, n)).2 nc ns)) (pE S (pe1 (inR days 1 5000) xIA)) := by
  refine h_startX (maxL := 4) (ret := (some .int)) (by decide) rfl (Nat.le_of_ble_eq_true rfl) ?_
  intro p e s m args below meth c F hr ht
  have hn40 := hC.1.2.2
  refine q_iload_n F 1 dX4_clean_0 rfl rfl ?_
  refine q_iconst F dX4_clean_1 hc_1 ?_
  refine q_sipush (v := 5000) F dX4_clean_2 (by decide) ?_
  refine q_callSX_v F (c_X4_requireWithin hst) gX4_clean_X4_requireWithin rfl hd_X4_requireWithin ⟨Nat.le_of_ble_eq_true rfl, Nat.le_of_ble_eq_true rfl⟩ rfl rfl (Nat.le_of_ble_eq_true rfl) dX4_clean_5 ⟨Nat.le_of_ble_eq_true rfl, Nat.le_of_ble_eq_true rfl⟩ (fun E hE => q_out F ht (Nat.le_of_ble_eq_true rfl) (Nat.le_of_ble_eq_true rfl) ⟨rfl, hE⟩) (fun k5 => ?_)
  refine q_iconst F dX4_clean_8 hc_0 ?_
  refine q_istore_n F 2 dX4_clean_9 rfl (by decide) rfl ?_
  refine q_aload_n F 0 dX4_clean_10 rfl rfl ?_
  refine qg_X4_47 F hG.1 dX4_clean_11 ?_
  refine q_iconst F dX4_clean_14 hc_1 ?_
  refine q_isub F dX4_clean_15 ?_
  refine q_top (v' := .int (dN n)) ?_ (congrArg Value.int (by rw [hC.1.1]; exact dN_pred n))
  refine q_istore_n F 3 dX4_clean_16 rfl (by decide) rfl ?_
  have L : ∀ (k : Nat) (S1 : hS) (ad : Nat → Nat) (M1 : Nat → Nat → Int32) (n1 : Nat), k ≤ n1 → n1 ≤ n → cl (sc 1) days k (M1, n1) = cl (sc 1) days n (M, n) → cP S S1 h bk ca sa ad pa (scN sc n1) M1 n1 nc ns → V p l e rm_X4_clean s m args below meth c 4 g X (vx_MQ below (hQ g X (pGI (fun r S' => inR days 1 5000 = true ∧ r = nI (n - (cl (sc 1) days n (M, n)).2) ∧ ∃ ad', cP S S' h bk ca sa ad' pa (scN sc (cl (sc 1) days n (M, n)).2) (cl (sc 1) days n (M, n)).1 (cl (sc 1) days n (M, n)).2 nc ns))) (hXC g X (pE S (pe1 (inR days 1 5000) xIA))) args s rm_X4_clean.cells rm_X4_clean.slots (hA g)) S1 1 6 [(0, .ref h), (1, .int days), (2, .int (nI (n - n1))), (3, .int (dN k))] 17 [] := by
    intro k
    induction k with
    | zero =>
      intro S1 ad M1 n1 hk hnn hT hD
      refine q_iload_n F 3 dX4_clean_17 rfl rfl ?_
      refine q_if_lt F 49 dX4_clean_18 rfl (fun c18 => ?_) (fun c18 => ?_)
      · refine q_iload_n F 2 dX4_clean_49 rfl rfl ?_
        exact q_x (q_reti F hr rfl dX4_clean_50 (Nat.le_of_ble_eq_true rfl) (Nat.le_of_ble_eq_true rfl) ⟨_, rfl, k5, by rw [← hT]; exact ⟨rfl, ad, hD⟩⟩)
      exact absurd c18 (by decide)
    | succ k ih =>
      intro S1 ad M1 n1 hk hnn hT hD
      obtain ⟨hG, hC, hcl⟩ := id hD
      have hO4 := hG.1
      have hn1 := hC.1.2.2
      obtain ⟨n0, rfl⟩ : ∃ n0, n1 = n0 + 1 := ⟨n1 - 1, by omega⟩
      have hi40 : k < 40 := by omega
      obtain ⟨pt, kk, hL⟩ := hC.2.1 k (by omega)
      have hb := clB_eq (days := days) hL (show sF S1 46 h = sc 1 by rw [hC.2.2.2.2.1.1, scN_ne (by decide)])
      refine q_iload_n F 3 dX4_clean_17 rfl rfl ?_
      refine q_if_lt F 49 dX4_clean_18 rfl (fun c18 => ?_) (fun c18 => ?_)
      · exact absurd c18 (dN_s (by omega))
      refine q_aload_n F 0 dX4_clean_21 rfl rfl ?_
      refine q_aload_n F 0 dX4_clean_22 rfl rfl ?_
      refine qg_X4_11 F hG.2.1.1 hG.1 dX4_clean_23 ?_
      refine q_iload_n F 3 dX4_clean_26 rfl rfl ?_
      refine q_aald_l F hG.2.1.2.1 hG.2.1.2.2 rfl hi40 (by decide) (hG.2.2.2.2.1 _ hi40).1 dX4_clean_27 ?_
      refine q_iload_n F 1 dX4_clean_28 rfl rfl ?_
      refine q_callV_i F (c_X4_isToBeCleaned hG.1 (hG.2.2.2.2.1 _ hi40).2.1) gX4_clean_X4_isToBeCleaned rfl hd_X4_isToBeCleaned ⟨Nat.le_of_ble_eq_true rfl, Nat.le_of_ble_eq_true rfl⟩ hG.1 rfl rfl rfl (Nat.le_of_ble_eq_true rfl) dX4_clean_29 ⟨Nat.le_of_ble_eq_true rfl, Nat.le_of_ble_eq_true rfl⟩ ?_
      refine q_if_eq F 43 dX4_clean_32 rfl (fun c32 => ?_) (fun c32 => ?_)
      · refine q_iinc F (dN k) dX4_clean_43 rfl (dN_dec k) (by decide) rfl ?_
        refine q_goto F 17 dX4_clean_46 rfl ?_
        first
          | (rw [hb] at c32
             have c32 := b2_0.mp c32
             exact q_to (ih _ _ _ _ (by omega) hnn (by rw [← hT, cl_s0 c32]) hD) ⟨rfl, rfl, rfl, rfl, trivial⟩)
          | (rw [hb] at c32
             have c32 := b2_n0 c32
             obtain ⟨hG2, hC2, hc2⟩ := hp37
             rw [scN_scN] at hC2
             exact q_to (ih _ _ _ _ (by omega) (by omega) (by rw [← hT, cl_s1 c32]) ⟨hG2, hC2, hcl.trans hc2⟩) ⟨rfl, rfl, rfl, rfl, trivial⟩)
      refine q_aload_n F 0 dX4_clean_35 rfl rfl ?_
      refine q_iload_n F 3 dX4_clean_36 rfl rfl ?_
      refine q_callV_gv F (c_X4_takeOut hG hC (show k < n0 + 1 by omega)) gX4_clean_X4_takeOut rfl hd_X4_takeOut ⟨Nat.le_of_ble_eq_true rfl, Nat.le_of_ble_eq_true rfl⟩ hG.1 rfl rfl rfl (Nat.le_of_ble_eq_true rfl) dX4_clean_37 ⟨Nat.le_of_ble_eq_true rfl, Nat.le_of_ble_eq_true rfl⟩ (fun S37 hp37 => ?_)
      refine q_iinc F (nI (n - n0)) dX4_clean_40 rfl (by rw [nI_inc]; exact congrArg nI (by omega)) (by decide) rfl ?_
      refine q_iinc F (dN k) dX4_clean_43 rfl (dN_dec k) (by decide) rfl ?_
      refine q_goto F 17 dX4_clean_46 rfl ?_
      first
        | (rw [hb] at c32
           have c32 := b2_0.mp c32
           exact q_to (ih _ _ _ _ (by omega) hnn (by rw [← hT, cl_s0 c32]) hD) ⟨rfl, rfl, rfl, rfl, trivial⟩)
        | (rw [hb] at c32
           have c32 := b2_n0 c32
           obtain ⟨hG2, hC2, hc2⟩ := hp37
           rw [scN_scN] at hC2
           exact q_to (ih _ _ _ _ (by omega) (by omega) (by rw [← hT, cl_s1 c32]) ⟨hG2, hC2, hcl.trans hc2⟩) ⟨rfl, rfl, rfl, rfl, trivial⟩)
  exact q_to (L n S ad M n (Nat.le_refl _) (Nat.le_refl _) rfl ⟨hG, by rw [scN_self hC.1.2.1]; exact hC, clF.rf S⟩) ⟨rfl, rfl, congrArg (fun z => some (Value.int z)) (by rw [Nat.sub_self]; rfl), rfl, trivial⟩

set_option maxHeartbeats 4000000 in
set_option maxRecDepth 100000 in
theorem c_X4_remove {l : Launch} {g : hG} {X : va_W} {S : hS} (hst : l.stackTraces = false) {h bk ca sa : Nat} {ad pa : Nat → Nat} {sc : Nat → Int32} {M : Nat → Nat → Int32} {n nc ns : Nat} (hG : cG S h bk ca sa ad pa) (hC : cC S h ca sa ad pa sc M n nc ns) {i : Int32} : hMetX l yX4_remove wsX4_remove rm_X4_remove g X S [.ref h, .int i] (pGI (fun r S' => inL i n = true ∧ r = M 5 i.toNatClampNeg ∧ ∃ ad', cP S S' h bk ca sa ad' pa (scN sc (n - 1)) (aRem M i.toNatClampNeg n) (n - 1) nc ns)) (pE S (pe1 (inL i n) xIO)) := by
  refine h_startX (maxL := 3) (ret := (some .int)) (by decide) rfl (Nat.le_of_ble_eq_true rfl) ?_
  intro p e s m args below meth c F hr ht
  refine q_aload_n F 0 dX4_remove_0 rfl rfl ?_
  refine q_iload_n F 1 dX4_remove_1 rfl rfl ?_
  refine q_callVX_a F (c_X4_lineAt hst hG hC) gX4_remove_X4_lineAt rfl hd_X4_lineAt ⟨Nat.le_of_ble_eq_true rfl, Nat.le_of_ble_eq_true rfl⟩ hG.1 rfl rfl rfl (Nat.le_of_ble_eq_true rfl) dX4_remove_2 ⟨Nat.le_of_ble_eq_true rfl, Nat.le_of_ble_eq_true rfl⟩ (fun E hE => q_out F ht (Nat.le_of_ble_eq_true rfl) (Nat.le_of_ble_eq_true rfl) ⟨rfl, hE⟩) (fun k2 => ?_)
  have hn40 := hC.1.2.2
  obtain ⟨j, hj, rfl⟩ := inL_get k2 (by omega)
  have hcl : (nI j).toNatClampNeg = j := nI_clamp (by omega)
  have hi40 : j < 40 := by omega
  obtain ⟨pt, k, hL⟩ := hC.2.1 j hj
  rw [hcl]
  obtain ⟨n0, rfl⟩ : ∃ n0, n = n0 + 1 := ⟨n - 1, by omega⟩
  refine qg_X4_65 F (hG.2.2.2.2.1 _ hi40).2.1 dX4_remove_5 ?_
  refine q_top (v' := .int (M 5 j)) ?_ (congrArg Value.int hL.1.2.1)
  refine q_istore_n F 2 dX4_remove_8 rfl (by decide) rfl ?_
  refine q_aload_n F 0 dX4_remove_9 rfl rfl ?_
  refine q_iload_n F 1 dX4_remove_10 rfl rfl ?_
  refine q_callV_gv F (c_X4_takeOut hG hC hj) gX4_remove_X4_takeOut rfl hd_X4_takeOut ⟨Nat.le_of_ble_eq_true rfl, Nat.le_of_ble_eq_true rfl⟩ hG.1 rfl rfl rfl (Nat.le_of_ble_eq_true rfl) dX4_remove_11 ⟨Nat.le_of_ble_eq_true rfl, Nat.le_of_ble_eq_true rfl⟩ (fun S11 hp11 => ?_)
  refine q_iload_n F 2 dX4_remove_14 rfl rfl ?_
  exact q_x (q_reti F hr rfl dX4_remove_15 (Nat.le_of_ble_eq_true rfl) (Nat.le_of_ble_eq_true rfl) ⟨_, rfl, k2, rfl, _, hp11⟩)

theorem okN_of {name port : Int32} (h : okNP name port = true) : okN name = true := by
  unfold okNP at h
  rw [Bool.and_eq_true] at h
  exact h.1

set_option maxHeartbeats 4000000 in
set_option maxRecDepth 100000 in
theorem c_X4_answer_n {l : Launch} {g : hG} {X : va_W} {S : hS} (hst : l.stackTraces = false) {h bk ca sa : Nat} {ad pa : Nat → Nat} {sc : Nat → Int32} {M : Nat → Nat → Int32} {n nc ns : Nat} (hG : cG S h bk ca sa ad pa) (hC : cC S h ca sa ad pa sc M n nc ns) {name port key : Int32} : hMetX l yX4_answer wsX4_answer rm_X4_answer g X S [.ref h, .int name, .int port, .int key, .int (-1)] (pGI (fun r S' => (okNP name port && okK key) = true ∧ r = (jb (sc 1) M name port key (-1) n) ∧ cP S S' h bk ca sa ad pa (scN (aW sc (jb (sc 1) M name port key (-1) n) name port key) (aAns sc M n (jb (sc 1) M name port key (-1) n) (-1) name port key).2) (aAns sc M n (jb (sc 1) M name port key (-1) n) (-1) name port key).1 (aAns sc M n (jb (sc 1) M name port key (-1) n) (-1) name port key).2 nc ns)) (pE S (pe1 (okNP name port && okK key) xIA)) := by
  refine h_startX (maxL := 7) (ret := (some .int)) (by decide) rfl (Nat.le_of_ble_eq_true rfl) ?_
  intro p e s m args below meth c F hr ht
  refine q_aload_n F 0 dX4_answer_0 rfl rfl ?_
  refine q_iload F dX4_answer_1 rfl ?_
  refine q_callVX_o F (c_X4_certificateAt_n) gX4_answer_X4_certificateAt rfl hd_X4_certificateAt ⟨Nat.le_of_ble_eq_true rfl, Nat.le_of_ble_eq_true rfl⟩ hG.1 rfl rfl rfl (Nat.le_of_ble_eq_true rfl) dX4_answer_3 ⟨Nat.le_of_ble_eq_true rfl, Nat.le_of_ble_eq_true rfl⟩ (fun E hE => hE.elim) (fun k3 => ?_)
  refine q_astoreN F dX4_answer_6 (by decide) rfl ?_
  refine q_iload_n F 1 dX4_answer_8 rfl rfl ?_
  refine q_iload_n F 2 dX4_answer_9 rfl rfl ?_
  refine q_callSX_v F (c_X4_requireNameAndPort hst) gX4_answer_X4_requireNameAndPort rfl hd_X4_requireNameAndPort ⟨Nat.le_of_ble_eq_true rfl, Nat.le_of_ble_eq_true rfl⟩ rfl rfl (Nat.le_of_ble_eq_true rfl) dX4_answer_10 ⟨Nat.le_of_ble_eq_true rfl, Nat.le_of_ble_eq_true rfl⟩ (fun E hE => q_out F ht (Nat.le_of_ble_eq_true rfl) (Nat.le_of_ble_eq_true rfl) ⟨rfl, (by rw [hE.1]; rfl), hE.2⟩) (fun k10 => ?_)
  refine q_iload_n F 3 dX4_answer_13 rfl rfl ?_
  refine q_callSX_v F (c_X4_requireKey hst) gX4_answer_X4_requireKey rfl hd_X4_requireKey ⟨Nat.le_of_ble_eq_true rfl, Nat.le_of_ble_eq_true rfl⟩ rfl rfl (Nat.le_of_ble_eq_true rfl) dX4_answer_14 ⟨Nat.le_of_ble_eq_true rfl, Nat.le_of_ble_eq_true rfl⟩ (fun E hE => q_out F ht (Nat.le_of_ble_eq_true rfl) (Nat.le_of_ble_eq_true rfl) ⟨rfl, (by rw [hE.1, Bool.and_false]), hE.2⟩) (fun k14 => ?_)
  refine q_aload_n F 0 dX4_answer_17 rfl rfl ?_
  refine q_iload_n F 1 dX4_answer_18 rfl rfl ?_
  refine q_iload_n F 2 dX4_answer_19 rfl rfl ?_
  refine q_iload_n F 3 dX4_answer_20 rfl rfl ?_
  refine q_aloadN F dX4_answer_21 rfl ?_
  refine q_callV_i F (c_X4_judgementOf_n hG hC) gX4_answer_X4_judgementOf rfl hd_X4_judgementOf ⟨Nat.le_of_ble_eq_true rfl, Nat.le_of_ble_eq_true rfl⟩ hG.1 rfl rfl rfl (Nat.le_of_ble_eq_true rfl) dX4_answer_23 ⟨Nat.le_of_ble_eq_true rfl, Nat.le_of_ble_eq_true rfl⟩ ?_
  refine q_istore F dX4_answer_26 (by decide) rfl ?_
  refine q_aload_n F 0 dX4_answer_28 rfl rfl ?_
  refine q_iconst F dX4_answer_29 hc_m1 ?_
  refine qp_X4_31 F hG.1 dX4_answer_30 ?_
  have h4 := hC.1.2.1
  obtain ⟨hG1, hC1, hc1⟩ := cC_none (name := name) (port := port) hG hC
  have h47 : sF (uF S 51 h (-1)) 47 h = sc 2 := hC.2.2.2.2.1.2.1
  have h41 : sF (uF S 51 h (-1)) 41 h = nI n := hC.1.1
  have hn40 := hC.1.2.2
  have hnm : okN name = true := okN_of k10
  refine q_iload F dX4_answer_33 rfl ?_
  refine q_iconst F dX4_answer_35 hc_1 ?_
  refine q_icmp_eq F 45 dX4_answer_36 rfl (fun c36 => ?_) (fun c36 => ?_)
  · refine q_aload_n F 0 dX4_answer_45 rfl rfl ?_
    refine q_iload_n F 1 dX4_answer_46 rfl rfl ?_
    refine q_iload_n F 2 dX4_answer_47 rfl rfl ?_
    refine q_iload_n F 3 dX4_answer_48 rfl rfl ?_
    refine q_aloadN F dX4_answer_49 rfl ?_
    refine q_callS_i F (c_X4_authorityOf_n) gX4_answer_X4_authorityOf rfl hd_X4_authorityOf ⟨Nat.le_of_ble_eq_true rfl, Nat.le_of_ble_eq_true rfl⟩ rfl rfl (Nat.le_of_ble_eq_true rfl) dX4_answer_51 ⟨Nat.le_of_ble_eq_true rfl, Nat.le_of_ble_eq_true rfl⟩ ?_
    refine q_callV_gv F (c_X4_seeToday hG1 hC1) gX4_answer_X4_seeToday rfl hd_X4_seeToday ⟨Nat.le_of_ble_eq_true rfl, Nat.le_of_ble_eq_true rfl⟩ (o_uF hG.1) rfl rfl rfl (Nat.le_of_ble_eq_true rfl) dX4_answer_54 ⟨Nat.le_of_ble_eq_true rfl, Nat.le_of_ble_eq_true rfl⟩ (fun S54 hp54 => ?_)
    refine q_goto F 119 dX4_answer_57 rfl ?_
    refine q_iload F dX4_answer_119 rfl ?_
    exact q_x (q_reti F hr rfl dX4_answer_121 (Nat.le_of_ble_eq_true rfl) (Nat.le_of_ble_eq_true rfl) ⟨_, rfl, by rw [k10, k14]; rfl, rfl, by first | exact ans_see h4 hc1 (Or.inl c36) hp54 | exact ans_see h4 hc1 (Or.inr c42) hp54 | exact ans_wait h4 hc1 c36 c42 (Or.inl c63) ⟨hp84.1, hp84.2.1, hp84.2.2⟩ | exact ans_wait h4 hc1 c36 c42 (Or.inr ⟨c69, by rw [← h47]; exact c77⟩) ⟨hp84.1, hp84.2.1, hp84.2.2⟩ | exact ans_new hc1 c93 (by rw [← h47]; exact c100) hp116.1 hp116.2 | exact ans_no h4 c36 c42 (fun z => z.elim c63 (fun w => c69 w.1)) (fun z => c69 z.1) ⟨hG1, hC1, hc1⟩ | exact ans_no h4 c36 c42 (fun z => z.elim c63 (fun w => c77 (by rw [h47]; exact w.2))) (fun z => c93 z.1) ⟨hG1, hC1, hc1⟩ | exact ans_no h4 c36 c42 (fun z => z.elim c63 (fun w => c77 (by rw [h47]; exact w.2))) (fun z => c100 (by rw [h47]; exact z.2.1)) ⟨hG1, hC1, hc1⟩ | exact ans_no h4 c36 c42 (fun z => z.elim c63 (fun w => c77 (by rw [h47]; exact w.2))) (fun z => nlt_of_nI (N := 40) h41 (by omega) (by omega) (fun z => Int32.not_le.mpr z c109) z.2.2) ⟨hG1, hC1, hc1⟩⟩)
  refine q_iload F dX4_answer_39 rfl ?_
  refine q_iconst F dX4_answer_41 hc_2 ?_
  refine q_icmp_ne F 60 dX4_answer_42 rfl (fun c42 => ?_) (fun c42 => ?_)
  · refine q_iload F dX4_answer_60 rfl ?_
    refine q_iconst F dX4_answer_62 hc_4 ?_
    refine q_icmp_eq F 80 dX4_answer_63 rfl (fun c63 => ?_) (fun c63 => ?_)
    · refine q_aload_n F 0 dX4_answer_80 rfl rfl ?_
      refine q_iload_n F 1 dX4_answer_81 rfl rfl ?_
      refine q_iload_n F 2 dX4_answer_82 rfl rfl ?_
      refine q_iload_n F 3 dX4_answer_83 rfl rfl ?_
      refine q_callV_v F (c_X4_letWait hG1.1) gX4_answer_X4_letWait rfl hd_X4_letWait ⟨Nat.le_of_ble_eq_true rfl, Nat.le_of_ble_eq_true rfl⟩ (o_uF hG.1) rfl rfl rfl (Nat.le_of_ble_eq_true rfl) dX4_answer_84 ⟨Nat.le_of_ble_eq_true rfl, Nat.le_of_ble_eq_true rfl⟩ ?_
      have hp84 := cC_wait (name := name) (port := port) (key := key) hG1 hC1
      refine q_goto F 119 dX4_answer_87 rfl ?_
      refine q_iload F dX4_answer_119 rfl ?_
      exact q_x (q_reti F hr rfl dX4_answer_121 (Nat.le_of_ble_eq_true rfl) (Nat.le_of_ble_eq_true rfl) ⟨_, rfl, by rw [k10, k14]; rfl, rfl, by first | exact ans_see h4 hc1 (Or.inl c36) hp54 | exact ans_see h4 hc1 (Or.inr c42) hp54 | exact ans_wait h4 hc1 c36 c42 (Or.inl c63) ⟨hp84.1, hp84.2.1, hp84.2.2⟩ | exact ans_wait h4 hc1 c36 c42 (Or.inr ⟨c69, by rw [← h47]; exact c77⟩) ⟨hp84.1, hp84.2.1, hp84.2.2⟩ | exact ans_new hc1 c93 (by rw [← h47]; exact c100) hp116.1 hp116.2 | exact ans_no h4 c36 c42 (fun z => z.elim c63 (fun w => c69 w.1)) (fun z => c69 z.1) ⟨hG1, hC1, hc1⟩ | exact ans_no h4 c36 c42 (fun z => z.elim c63 (fun w => c77 (by rw [h47]; exact w.2))) (fun z => c93 z.1) ⟨hG1, hC1, hc1⟩ | exact ans_no h4 c36 c42 (fun z => z.elim c63 (fun w => c77 (by rw [h47]; exact w.2))) (fun z => c100 (by rw [h47]; exact z.2.1)) ⟨hG1, hC1, hc1⟩ | exact ans_no h4 c36 c42 (fun z => z.elim c63 (fun w => c77 (by rw [h47]; exact w.2))) (fun z => nlt_of_nI (N := 40) h41 (by omega) (by omega) (fun z => Int32.not_le.mpr z c109) z.2.2) ⟨hG1, hC1, hc1⟩⟩)
    refine q_iload F dX4_answer_66 rfl ?_
    refine q_iconst F dX4_answer_68 hc_5 ?_
    refine q_icmp_ne F 90 dX4_answer_69 rfl (fun c69 => ?_) (fun c69 => ?_)
    · refine q_iload F dX4_answer_90 rfl ?_
      refine q_iconst F dX4_answer_92 hc_5 ?_
      refine q_icmp_ne F 119 dX4_answer_93 rfl (fun c93 => ?_) (fun c93 => ?_)
      · refine q_iload F dX4_answer_119 rfl ?_
        exact q_x (q_reti F hr rfl dX4_answer_121 (Nat.le_of_ble_eq_true rfl) (Nat.le_of_ble_eq_true rfl) ⟨_, rfl, by rw [k10, k14]; rfl, rfl, by first | exact ans_see h4 hc1 (Or.inl c36) hp54 | exact ans_see h4 hc1 (Or.inr c42) hp54 | exact ans_wait h4 hc1 c36 c42 (Or.inl c63) ⟨hp84.1, hp84.2.1, hp84.2.2⟩ | exact ans_wait h4 hc1 c36 c42 (Or.inr ⟨c69, by rw [← h47]; exact c77⟩) ⟨hp84.1, hp84.2.1, hp84.2.2⟩ | exact ans_new hc1 c93 (by rw [← h47]; exact c100) hp116.1 hp116.2 | exact ans_no h4 c36 c42 (fun z => z.elim c63 (fun w => c69 w.1)) (fun z => c69 z.1) ⟨hG1, hC1, hc1⟩ | exact ans_no h4 c36 c42 (fun z => z.elim c63 (fun w => c77 (by rw [h47]; exact w.2))) (fun z => c93 z.1) ⟨hG1, hC1, hc1⟩ | exact ans_no h4 c36 c42 (fun z => z.elim c63 (fun w => c77 (by rw [h47]; exact w.2))) (fun z => c100 (by rw [h47]; exact z.2.1)) ⟨hG1, hC1, hc1⟩ | exact ans_no h4 c36 c42 (fun z => z.elim c63 (fun w => c77 (by rw [h47]; exact w.2))) (fun z => nlt_of_nI (N := 40) h41 (by omega) (by omega) (fun z => Int32.not_le.mpr z c109) z.2.2) ⟨hG1, hC1, hc1⟩⟩)
      refine q_aload_n F 0 dX4_answer_96 rfl rfl ?_
      refine qg_X4_27 F (o_uF hG1.1) dX4_answer_97 ?_
      refine q_if_ne F 119 dX4_answer_100 rfl (fun c100 => ?_) (fun c100 => ?_)
      · refine q_iload F dX4_answer_119 rfl ?_
        exact q_x (q_reti F hr rfl dX4_answer_121 (Nat.le_of_ble_eq_true rfl) (Nat.le_of_ble_eq_true rfl) ⟨_, rfl, by rw [k10, k14]; rfl, rfl, by first | exact ans_see h4 hc1 (Or.inl c36) hp54 | exact ans_see h4 hc1 (Or.inr c42) hp54 | exact ans_wait h4 hc1 c36 c42 (Or.inl c63) ⟨hp84.1, hp84.2.1, hp84.2.2⟩ | exact ans_wait h4 hc1 c36 c42 (Or.inr ⟨c69, by rw [← h47]; exact c77⟩) ⟨hp84.1, hp84.2.1, hp84.2.2⟩ | exact ans_new hc1 c93 (by rw [← h47]; exact c100) hp116.1 hp116.2 | exact ans_no h4 c36 c42 (fun z => z.elim c63 (fun w => c69 w.1)) (fun z => c69 z.1) ⟨hG1, hC1, hc1⟩ | exact ans_no h4 c36 c42 (fun z => z.elim c63 (fun w => c77 (by rw [h47]; exact w.2))) (fun z => c93 z.1) ⟨hG1, hC1, hc1⟩ | exact ans_no h4 c36 c42 (fun z => z.elim c63 (fun w => c77 (by rw [h47]; exact w.2))) (fun z => c100 (by rw [h47]; exact z.2.1)) ⟨hG1, hC1, hc1⟩ | exact ans_no h4 c36 c42 (fun z => z.elim c63 (fun w => c77 (by rw [h47]; exact w.2))) (fun z => nlt_of_nI (N := 40) h41 (by omega) (by omega) (fun z => Int32.not_le.mpr z c109) z.2.2) ⟨hG1, hC1, hc1⟩⟩)
      refine q_aload_n F 0 dX4_answer_103 rfl rfl ?_
      refine qg_X4_47 F (o_uF hG1.1) dX4_answer_104 ?_
      refine q_bipush (v := 40) F dX4_answer_107 (by decide) ?_
      refine q_icmp_ge F 119 dX4_answer_109 rfl (fun c109 => ?_) (fun c109 => ?_)
      · refine q_iload F dX4_answer_119 rfl ?_
        exact q_x (q_reti F hr rfl dX4_answer_121 (Nat.le_of_ble_eq_true rfl) (Nat.le_of_ble_eq_true rfl) ⟨_, rfl, by rw [k10, k14]; rfl, rfl, by first | exact ans_see h4 hc1 (Or.inl c36) hp54 | exact ans_see h4 hc1 (Or.inr c42) hp54 | exact ans_wait h4 hc1 c36 c42 (Or.inl c63) ⟨hp84.1, hp84.2.1, hp84.2.2⟩ | exact ans_wait h4 hc1 c36 c42 (Or.inr ⟨c69, by rw [← h47]; exact c77⟩) ⟨hp84.1, hp84.2.1, hp84.2.2⟩ | exact ans_new hc1 c93 (by rw [← h47]; exact c100) hp116.1 hp116.2 | exact ans_no h4 c36 c42 (fun z => z.elim c63 (fun w => c69 w.1)) (fun z => c69 z.1) ⟨hG1, hC1, hc1⟩ | exact ans_no h4 c36 c42 (fun z => z.elim c63 (fun w => c77 (by rw [h47]; exact w.2))) (fun z => c93 z.1) ⟨hG1, hC1, hc1⟩ | exact ans_no h4 c36 c42 (fun z => z.elim c63 (fun w => c77 (by rw [h47]; exact w.2))) (fun z => c100 (by rw [h47]; exact z.2.1)) ⟨hG1, hC1, hc1⟩ | exact ans_no h4 c36 c42 (fun z => z.elim c63 (fun w => c77 (by rw [h47]; exact w.2))) (fun z => nlt_of_nI (N := 40) h41 (by omega) (by omega) (fun z => Int32.not_le.mpr z c109) z.2.2) ⟨hG1, hC1, hc1⟩⟩)
      have hlt : n < 40 := lt_of_nI (N := 40) h41 (by omega) (by omega) (Int32.not_le.mp c109)
      refine q_aload_n F 0 dX4_answer_112 rfl rfl ?_
      refine q_iload_n F 1 dX4_answer_113 rfl rfl ?_
      refine q_iload_n F 2 dX4_answer_114 rfl rfl ?_
      refine q_iload_n F 3 dX4_answer_115 rfl rfl ?_
      refine q_callVX_gv F (c_X4_appendSighted hst hG1 hC1 hnm k14) gX4_answer_X4_appendSighted rfl hd_X4_appendSighted ⟨Nat.le_of_ble_eq_true rfl, Nat.le_of_ble_eq_true rfl⟩ (o_uF hG.1) rfl rfl rfl (Nat.le_of_ble_eq_true rfl) dX4_answer_116 ⟨Nat.le_of_ble_eq_true rfl, Nat.le_of_ble_eq_true rfl⟩ (fun E hE => absurd hlt (of_decide_eq_false hE.1)) (fun S116 hp116 => ?_)
      refine q_iload F dX4_answer_119 rfl ?_
      exact q_x (q_reti F hr rfl dX4_answer_121 (Nat.le_of_ble_eq_true rfl) (Nat.le_of_ble_eq_true rfl) ⟨_, rfl, by rw [k10, k14]; rfl, rfl, by first | exact ans_see h4 hc1 (Or.inl c36) hp54 | exact ans_see h4 hc1 (Or.inr c42) hp54 | exact ans_wait h4 hc1 c36 c42 (Or.inl c63) ⟨hp84.1, hp84.2.1, hp84.2.2⟩ | exact ans_wait h4 hc1 c36 c42 (Or.inr ⟨c69, by rw [← h47]; exact c77⟩) ⟨hp84.1, hp84.2.1, hp84.2.2⟩ | exact ans_new hc1 c93 (by rw [← h47]; exact c100) hp116.1 hp116.2 | exact ans_no h4 c36 c42 (fun z => z.elim c63 (fun w => c69 w.1)) (fun z => c69 z.1) ⟨hG1, hC1, hc1⟩ | exact ans_no h4 c36 c42 (fun z => z.elim c63 (fun w => c77 (by rw [h47]; exact w.2))) (fun z => c93 z.1) ⟨hG1, hC1, hc1⟩ | exact ans_no h4 c36 c42 (fun z => z.elim c63 (fun w => c77 (by rw [h47]; exact w.2))) (fun z => c100 (by rw [h47]; exact z.2.1)) ⟨hG1, hC1, hc1⟩ | exact ans_no h4 c36 c42 (fun z => z.elim c63 (fun w => c77 (by rw [h47]; exact w.2))) (fun z => nlt_of_nI (N := 40) h41 (by omega) (by omega) (fun z => Int32.not_le.mpr z c109) z.2.2) ⟨hG1, hC1, hc1⟩⟩)
    refine q_aload_n F 0 dX4_answer_72 rfl rfl ?_
    refine qg_X4_27 F (o_uF hG1.1) dX4_answer_73 ?_
    refine q_iconst F dX4_answer_76 hc_1 ?_
    refine q_icmp_ne F 90 dX4_answer_77 rfl (fun c77 => ?_) (fun c77 => ?_)
    · refine q_iload F dX4_answer_90 rfl ?_
      refine q_iconst F dX4_answer_92 hc_5 ?_
      refine q_icmp_ne F 119 dX4_answer_93 rfl (fun c93 => ?_) (fun c93 => ?_)
      · refine q_iload F dX4_answer_119 rfl ?_
        exact q_x (q_reti F hr rfl dX4_answer_121 (Nat.le_of_ble_eq_true rfl) (Nat.le_of_ble_eq_true rfl) ⟨_, rfl, by rw [k10, k14]; rfl, rfl, by first | exact ans_see h4 hc1 (Or.inl c36) hp54 | exact ans_see h4 hc1 (Or.inr c42) hp54 | exact ans_wait h4 hc1 c36 c42 (Or.inl c63) ⟨hp84.1, hp84.2.1, hp84.2.2⟩ | exact ans_wait h4 hc1 c36 c42 (Or.inr ⟨c69, by rw [← h47]; exact c77⟩) ⟨hp84.1, hp84.2.1, hp84.2.2⟩ | exact ans_new hc1 c93 (by rw [← h47]; exact c100) hp116.1 hp116.2 | exact ans_no h4 c36 c42 (fun z => z.elim c63 (fun w => c69 w.1)) (fun z => c69 z.1) ⟨hG1, hC1, hc1⟩ | exact ans_no h4 c36 c42 (fun z => z.elim c63 (fun w => c77 (by rw [h47]; exact w.2))) (fun z => c93 z.1) ⟨hG1, hC1, hc1⟩ | exact ans_no h4 c36 c42 (fun z => z.elim c63 (fun w => c77 (by rw [h47]; exact w.2))) (fun z => c100 (by rw [h47]; exact z.2.1)) ⟨hG1, hC1, hc1⟩ | exact ans_no h4 c36 c42 (fun z => z.elim c63 (fun w => c77 (by rw [h47]; exact w.2))) (fun z => nlt_of_nI (N := 40) h41 (by omega) (by omega) (fun z => Int32.not_le.mpr z c109) z.2.2) ⟨hG1, hC1, hc1⟩⟩)
      refine q_aload_n F 0 dX4_answer_96 rfl rfl ?_
      refine qg_X4_27 F (o_uF hG1.1) dX4_answer_97 ?_
      refine q_if_ne F 119 dX4_answer_100 rfl (fun c100 => ?_) (fun c100 => ?_)
      · refine q_iload F dX4_answer_119 rfl ?_
        exact q_x (q_reti F hr rfl dX4_answer_121 (Nat.le_of_ble_eq_true rfl) (Nat.le_of_ble_eq_true rfl) ⟨_, rfl, by rw [k10, k14]; rfl, rfl, by first | exact ans_see h4 hc1 (Or.inl c36) hp54 | exact ans_see h4 hc1 (Or.inr c42) hp54 | exact ans_wait h4 hc1 c36 c42 (Or.inl c63) ⟨hp84.1, hp84.2.1, hp84.2.2⟩ | exact ans_wait h4 hc1 c36 c42 (Or.inr ⟨c69, by rw [← h47]; exact c77⟩) ⟨hp84.1, hp84.2.1, hp84.2.2⟩ | exact ans_new hc1 c93 (by rw [← h47]; exact c100) hp116.1 hp116.2 | exact ans_no h4 c36 c42 (fun z => z.elim c63 (fun w => c69 w.1)) (fun z => c69 z.1) ⟨hG1, hC1, hc1⟩ | exact ans_no h4 c36 c42 (fun z => z.elim c63 (fun w => c77 (by rw [h47]; exact w.2))) (fun z => c93 z.1) ⟨hG1, hC1, hc1⟩ | exact ans_no h4 c36 c42 (fun z => z.elim c63 (fun w => c77 (by rw [h47]; exact w.2))) (fun z => c100 (by rw [h47]; exact z.2.1)) ⟨hG1, hC1, hc1⟩ | exact ans_no h4 c36 c42 (fun z => z.elim c63 (fun w => c77 (by rw [h47]; exact w.2))) (fun z => nlt_of_nI (N := 40) h41 (by omega) (by omega) (fun z => Int32.not_le.mpr z c109) z.2.2) ⟨hG1, hC1, hc1⟩⟩)
      refine q_aload_n F 0 dX4_answer_103 rfl rfl ?_
      refine qg_X4_47 F (o_uF hG1.1) dX4_answer_104 ?_
      refine q_bipush (v := 40) F dX4_answer_107 (by decide) ?_
      refine q_icmp_ge F 119 dX4_answer_109 rfl (fun c109 => ?_) (fun c109 => ?_)
      · refine q_iload F dX4_answer_119 rfl ?_
        exact q_x (q_reti F hr rfl dX4_answer_121 (Nat.le_of_ble_eq_true rfl) (Nat.le_of_ble_eq_true rfl) ⟨_, rfl, by rw [k10, k14]; rfl, rfl, by first | exact ans_see h4 hc1 (Or.inl c36) hp54 | exact ans_see h4 hc1 (Or.inr c42) hp54 | exact ans_wait h4 hc1 c36 c42 (Or.inl c63) ⟨hp84.1, hp84.2.1, hp84.2.2⟩ | exact ans_wait h4 hc1 c36 c42 (Or.inr ⟨c69, by rw [← h47]; exact c77⟩) ⟨hp84.1, hp84.2.1, hp84.2.2⟩ | exact ans_new hc1 c93 (by rw [← h47]; exact c100) hp116.1 hp116.2 | exact ans_no h4 c36 c42 (fun z => z.elim c63 (fun w => c69 w.1)) (fun z => c69 z.1) ⟨hG1, hC1, hc1⟩ | exact ans_no h4 c36 c42 (fun z => z.elim c63 (fun w => c77 (by rw [h47]; exact w.2))) (fun z => c93 z.1) ⟨hG1, hC1, hc1⟩ | exact ans_no h4 c36 c42 (fun z => z.elim c63 (fun w => c77 (by rw [h47]; exact w.2))) (fun z => c100 (by rw [h47]; exact z.2.1)) ⟨hG1, hC1, hc1⟩ | exact ans_no h4 c36 c42 (fun z => z.elim c63 (fun w => c77 (by rw [h47]; exact w.2))) (fun z => nlt_of_nI (N := 40) h41 (by omega) (by omega) (fun z => Int32.not_le.mpr z c109) z.2.2) ⟨hG1, hC1, hc1⟩⟩)
      have hlt : n < 40 := lt_of_nI (N := 40) h41 (by omega) (by omega) (Int32.not_le.mp c109)
      refine q_aload_n F 0 dX4_answer_112 rfl rfl ?_
      refine q_iload_n F 1 dX4_answer_113 rfl rfl ?_
      refine q_iload_n F 2 dX4_answer_114 rfl rfl ?_
      refine q_iload_n F 3 dX4_answer_115 rfl rfl ?_
      refine q_callVX_gv F (c_X4_appendSighted hst hG1 hC1 hnm k14) gX4_answer_X4_appendSighted rfl hd_X4_appendSighted ⟨Nat.le_of_ble_eq_true rfl, Nat.le_of_ble_eq_true rfl⟩ (o_uF hG.1) rfl rfl rfl (Nat.le_of_ble_eq_true rfl) dX4_answer_116 ⟨Nat.le_of_ble_eq_true rfl, Nat.le_of_ble_eq_true rfl⟩ (fun E hE => absurd hlt (of_decide_eq_false hE.1)) (fun S116 hp116 => ?_)
      refine q_iload F dX4_answer_119 rfl ?_
      exact q_x (q_reti F hr rfl dX4_answer_121 (Nat.le_of_ble_eq_true rfl) (Nat.le_of_ble_eq_true rfl) ⟨_, rfl, by rw [k10, k14]; rfl, rfl, by first | exact ans_see h4 hc1 (Or.inl c36) hp54 | exact ans_see h4 hc1 (Or.inr c42) hp54 | exact ans_wait h4 hc1 c36 c42 (Or.inl c63) ⟨hp84.1, hp84.2.1, hp84.2.2⟩ | exact ans_wait h4 hc1 c36 c42 (Or.inr ⟨c69, by rw [← h47]; exact c77⟩) ⟨hp84.1, hp84.2.1, hp84.2.2⟩ | exact ans_new hc1 c93 (by rw [← h47]; exact c100) hp116.1 hp116.2 | exact ans_no h4 c36 c42 (fun z => z.elim c63 (fun w => c69 w.1)) (fun z => c69 z.1) ⟨hG1, hC1, hc1⟩ | exact ans_no h4 c36 c42 (fun z => z.elim c63 (fun w => c77 (by rw [h47]; exact w.2))) (fun z => c93 z.1) ⟨hG1, hC1, hc1⟩ | exact ans_no h4 c36 c42 (fun z => z.elim c63 (fun w => c77 (by rw [h47]; exact w.2))) (fun z => c100 (by rw [h47]; exact z.2.1)) ⟨hG1, hC1, hc1⟩ | exact ans_no h4 c36 c42 (fun z => z.elim c63 (fun w => c77 (by rw [h47]; exact w.2))) (fun z => nlt_of_nI (N := 40) h41 (by omega) (by omega) (fun z => Int32.not_le.mpr z c109) z.2.2) ⟨hG1, hC1, hc1⟩⟩)
    refine q_aload_n F 0 dX4_answer_80 rfl rfl ?_
    refine q_iload_n F 1 dX4_answer_81 rfl rfl ?_
    refine q_iload_n F 2 dX4_answer_82 rfl rfl ?_
    refine q_iload_n F 3 dX4_answer_83 rfl rfl ?_
    refine q_callV_v F (c_X4_letWait hG1.1) gX4_answer_X4_letWait rfl hd_X4_letWait ⟨Nat.le_of_ble_eq_true rfl, Nat.le_of_ble_eq_true rfl⟩ (o_uF hG.1) rfl rfl rfl (Nat.le_of_ble_eq_true rfl) dX4_answer_84 ⟨Nat.le_of_ble_eq_true rfl, Nat.le_of_ble_eq_true rfl⟩ ?_
    have hp84 := cC_wait (name := name) (port := port) (key := key) hG1 hC1
    refine q_goto F 119 dX4_answer_87 rfl ?_
    refine q_iload F dX4_answer_119 rfl ?_
    exact q_x (q_reti F hr rfl dX4_answer_121 (Nat.le_of_ble_eq_true rfl) (Nat.le_of_ble_eq_true rfl) ⟨_, rfl, by rw [k10, k14]; rfl, rfl, by first | exact ans_see h4 hc1 (Or.inl c36) hp54 | exact ans_see h4 hc1 (Or.inr c42) hp54 | exact ans_wait h4 hc1 c36 c42 (Or.inl c63) ⟨hp84.1, hp84.2.1, hp84.2.2⟩ | exact ans_wait h4 hc1 c36 c42 (Or.inr ⟨c69, by rw [← h47]; exact c77⟩) ⟨hp84.1, hp84.2.1, hp84.2.2⟩ | exact ans_new hc1 c93 (by rw [← h47]; exact c100) hp116.1 hp116.2 | exact ans_no h4 c36 c42 (fun z => z.elim c63 (fun w => c69 w.1)) (fun z => c69 z.1) ⟨hG1, hC1, hc1⟩ | exact ans_no h4 c36 c42 (fun z => z.elim c63 (fun w => c77 (by rw [h47]; exact w.2))) (fun z => c93 z.1) ⟨hG1, hC1, hc1⟩ | exact ans_no h4 c36 c42 (fun z => z.elim c63 (fun w => c77 (by rw [h47]; exact w.2))) (fun z => c100 (by rw [h47]; exact z.2.1)) ⟨hG1, hC1, hc1⟩ | exact ans_no h4 c36 c42 (fun z => z.elim c63 (fun w => c77 (by rw [h47]; exact w.2))) (fun z => nlt_of_nI (N := 40) h41 (by omega) (by omega) (fun z => Int32.not_le.mpr z c109) z.2.2) ⟨hG1, hC1, hc1⟩⟩)
  refine q_aload_n F 0 dX4_answer_45 rfl rfl ?_
  refine q_iload_n F 1 dX4_answer_46 rfl rfl ?_
  refine q_iload_n F 2 dX4_answer_47 rfl rfl ?_
  refine q_iload_n F 3 dX4_answer_48 rfl rfl ?_
  refine q_aloadN F dX4_answer_49 rfl ?_
  refine q_callS_i F (c_X4_authorityOf_n) gX4_answer_X4_authorityOf rfl hd_X4_authorityOf ⟨Nat.le_of_ble_eq_true rfl, Nat.le_of_ble_eq_true rfl⟩ rfl rfl (Nat.le_of_ble_eq_true rfl) dX4_answer_51 ⟨Nat.le_of_ble_eq_true rfl, Nat.le_of_ble_eq_true rfl⟩ ?_
  refine q_callV_gv F (c_X4_seeToday hG1 hC1) gX4_answer_X4_seeToday rfl hd_X4_seeToday ⟨Nat.le_of_ble_eq_true rfl, Nat.le_of_ble_eq_true rfl⟩ (o_uF hG.1) rfl rfl rfl (Nat.le_of_ble_eq_true rfl) dX4_answer_54 ⟨Nat.le_of_ble_eq_true rfl, Nat.le_of_ble_eq_true rfl⟩ (fun S54 hp54 => ?_)
  refine q_goto F 119 dX4_answer_57 rfl ?_
  refine q_iload F dX4_answer_119 rfl ?_
  exact q_x (q_reti F hr rfl dX4_answer_121 (Nat.le_of_ble_eq_true rfl) (Nat.le_of_ble_eq_true rfl) ⟨_, rfl, by rw [k10, k14]; rfl, rfl, by first | exact ans_see h4 hc1 (Or.inl c36) hp54 | exact ans_see h4 hc1 (Or.inr c42) hp54 | exact ans_wait h4 hc1 c36 c42 (Or.inl c63) ⟨hp84.1, hp84.2.1, hp84.2.2⟩ | exact ans_wait h4 hc1 c36 c42 (Or.inr ⟨c69, by rw [← h47]; exact c77⟩) ⟨hp84.1, hp84.2.1, hp84.2.2⟩ | exact ans_new hc1 c93 (by rw [← h47]; exact c100) hp116.1 hp116.2 | exact ans_no h4 c36 c42 (fun z => z.elim c63 (fun w => c69 w.1)) (fun z => c69 z.1) ⟨hG1, hC1, hc1⟩ | exact ans_no h4 c36 c42 (fun z => z.elim c63 (fun w => c77 (by rw [h47]; exact w.2))) (fun z => c93 z.1) ⟨hG1, hC1, hc1⟩ | exact ans_no h4 c36 c42 (fun z => z.elim c63 (fun w => c77 (by rw [h47]; exact w.2))) (fun z => c100 (by rw [h47]; exact z.2.1)) ⟨hG1, hC1, hc1⟩ | exact ans_no h4 c36 c42 (fun z => z.elim c63 (fun w => c77 (by rw [h47]; exact w.2))) (fun z => nlt_of_nI (N := 40) h41 (by omega) (by omega) (fun z => Int32.not_le.mpr z c109) z.2.2) ⟨hG1, hC1, hc1⟩⟩)

set_option maxHeartbeats 4000000 in
set_option maxRecDepth 100000 in
theorem c_X4_answer {l : Launch} {g : hG} {X : va_W} {S : hS} (hst : l.stackTraces = false) {h bk ca sa : Nat} {ad pa : Nat → Nat} {sc : Nat → Int32} {M : Nat → Nat → Int32} {n nc ns : Nat} (hG : cG S h bk ca sa ad pa) (hC : cC S h ca sa ad pa sc M n nc ns) {name port key ct : Int32} (hi : ¬ ct = -1) : hMetX l yX4_answer wsX4_answer rm_X4_answer g X S [.ref h, .int name, .int port, .int key, .int ct] (pGI (fun r S' => (inL ct nc = true ∧ (okNP name port && okK key) = true) ∧ r = (jo (sc 1) M n ns name port key ct.toNatClampNeg) ∧ cP S S' h bk ca sa ad pa (scN (aW sc (jo (sc 1) M n ns name port key ct.toNatClampNeg) name port key) (aAns sc M n (jo (sc 1) M n ns name port key ct.toNatClampNeg) (M 18 ct.toNatClampNeg) name port key).2) (aAns sc M n (jo (sc 1) M n ns name port key ct.toNatClampNeg) (M 18 ct.toNatClampNeg) name port key).1 (aAns sc M n (jo (sc 1) M n ns name port key ct.toNatClampNeg) (M 18 ct.toNatClampNeg) name port key).2 nc ns)) (pE S (pe2 (inL ct nc) (okNP name port && okK key) xIO xIA)) := by
  refine h_startX (maxL := 7) (ret := (some .int)) (by decide) rfl (Nat.le_of_ble_eq_true rfl) ?_
  intro p e s m args below meth c F hr ht
  refine q_aload_n F 0 dX4_answer_0 rfl rfl ?_
  refine q_iload F dX4_answer_1 rfl ?_
  refine q_callVX_a F (c_X4_certificateAt hst hG hC hi) gX4_answer_X4_certificateAt rfl hd_X4_certificateAt ⟨Nat.le_of_ble_eq_true rfl, Nat.le_of_ble_eq_true rfl⟩ hG.1 rfl rfl rfl (Nat.le_of_ble_eq_true rfl) dX4_answer_3 ⟨Nat.le_of_ble_eq_true rfl, Nat.le_of_ble_eq_true rfl⟩ (fun E hE => q_out F ht (Nat.le_of_ble_eq_true rfl) (Nat.le_of_ble_eq_true rfl) ⟨rfl, Or.inl hE⟩) (fun k3 => ?_)
  obtain ⟨ci, hci, rfl⟩ := inL_get k3 (by have := hC.2.2.1.2.2; omega)
  have hcl0 : (nI ci).toNatClampNeg = ci := nI_clamp (by have := hC.2.2.1.2.2; omega)
  obtain ⟨cr, hz, hR⟩ := hC.2.2.2.2.2.2.1 ci hci
  rw [hcl0, hz]
  refine q_astore F dX4_answer_6 (by decide) rfl ?_
  refine q_iload_n F 1 dX4_answer_8 rfl rfl ?_
  refine q_iload_n F 2 dX4_answer_9 rfl rfl ?_
  refine q_callSX_v F (c_X4_requireNameAndPort hst) gX4_answer_X4_requireNameAndPort rfl hd_X4_requireNameAndPort ⟨Nat.le_of_ble_eq_true rfl, Nat.le_of_ble_eq_true rfl⟩ rfl rfl (Nat.le_of_ble_eq_true rfl) dX4_answer_10 ⟨Nat.le_of_ble_eq_true rfl, Nat.le_of_ble_eq_true rfl⟩ (fun E hE => q_out F ht (Nat.le_of_ble_eq_true rfl) (Nat.le_of_ble_eq_true rfl) ⟨rfl, Or.inr ⟨k3, by rw [hE.1]; rfl, hE.2⟩⟩) (fun k10 => ?_)
  refine q_iload_n F 3 dX4_answer_13 rfl rfl ?_
  refine q_callSX_v F (c_X4_requireKey hst) gX4_answer_X4_requireKey rfl hd_X4_requireKey ⟨Nat.le_of_ble_eq_true rfl, Nat.le_of_ble_eq_true rfl⟩ rfl rfl (Nat.le_of_ble_eq_true rfl) dX4_answer_14 ⟨Nat.le_of_ble_eq_true rfl, Nat.le_of_ble_eq_true rfl⟩ (fun E hE => q_out F ht (Nat.le_of_ble_eq_true rfl) (Nat.le_of_ble_eq_true rfl) ⟨rfl, Or.inr ⟨k3, by rw [hE.1, Bool.and_false], hE.2⟩⟩) (fun k14 => ?_)
  refine q_aload_n F 0 dX4_answer_17 rfl rfl ?_
  refine q_iload_n F 1 dX4_answer_18 rfl rfl ?_
  refine q_iload_n F 2 dX4_answer_19 rfl rfl ?_
  refine q_iload_n F 3 dX4_answer_20 rfl rfl ?_
  refine q_aload F dX4_answer_21 rfl ?_
  refine q_callV_i F (c_X4_judgementOf hG hC hR) gX4_answer_X4_judgementOf rfl hd_X4_judgementOf ⟨Nat.le_of_ble_eq_true rfl, Nat.le_of_ble_eq_true rfl⟩ hG.1 rfl rfl rfl (Nat.le_of_ble_eq_true rfl) dX4_answer_23 ⟨Nat.le_of_ble_eq_true rfl, Nat.le_of_ble_eq_true rfl⟩ ?_
  refine q_istore F dX4_answer_26 (by decide) rfl ?_
  refine q_aload_n F 0 dX4_answer_28 rfl rfl ?_
  refine q_iconst F dX4_answer_29 hc_m1 ?_
  refine qp_X4_31 F hG.1 dX4_answer_30 ?_
  have h4 := hC.1.2.1
  obtain ⟨hG1, hC1, hc1⟩ := cC_none (name := name) (port := port) hG hC
  have h47 : sF (uF S 51 h (-1)) 47 h = sc 2 := hC.2.2.2.2.1.2.1
  have h41 : sF (uF S 51 h (-1)) 41 h = nI n := hC.1.1
  have hn40 := hC.1.2.2
  have hnm : okN name = true := okN_of k10
  refine q_iload F dX4_answer_33 rfl ?_
  refine q_iconst F dX4_answer_35 hc_1 ?_
  refine q_icmp_eq F 45 dX4_answer_36 rfl (fun c36 => ?_) (fun c36 => ?_)
  · refine q_aload_n F 0 dX4_answer_45 rfl rfl ?_
    refine q_iload_n F 1 dX4_answer_46 rfl rfl ?_
    refine q_iload_n F 2 dX4_answer_47 rfl rfl ?_
    refine q_iload_n F 3 dX4_answer_48 rfl rfl ?_
    refine q_aload F dX4_answer_49 rfl ?_
    refine q_callS_i F (c_X4_authorityOf (o_uF hR.1)) gX4_answer_X4_authorityOf rfl hd_X4_authorityOf ⟨Nat.le_of_ble_eq_true rfl, Nat.le_of_ble_eq_true rfl⟩ rfl rfl (Nat.le_of_ble_eq_true rfl) dX4_answer_51 ⟨Nat.le_of_ble_eq_true rfl, Nat.le_of_ble_eq_true rfl⟩ ?_
    refine q_top (v' := .int (M 18 ci)) ?_ (congrArg Value.int (hR.2.1))
    refine q_callV_gv F (c_X4_seeToday hG1 hC1) gX4_answer_X4_seeToday rfl hd_X4_seeToday ⟨Nat.le_of_ble_eq_true rfl, Nat.le_of_ble_eq_true rfl⟩ (o_uF hG.1) rfl rfl rfl (Nat.le_of_ble_eq_true rfl) dX4_answer_54 ⟨Nat.le_of_ble_eq_true rfl, Nat.le_of_ble_eq_true rfl⟩ (fun S54 hp54 => ?_)
    refine q_goto F 119 dX4_answer_57 rfl ?_
    refine q_iload F dX4_answer_119 rfl ?_
    exact q_x (q_reti F hr rfl dX4_answer_121 (Nat.le_of_ble_eq_true rfl) (Nat.le_of_ble_eq_true rfl) ⟨_, rfl, ⟨k3, by rw [k10, k14]; rfl⟩, rfl, by first | exact ans_see h4 hc1 (Or.inl c36) hp54 | exact ans_see h4 hc1 (Or.inr c42) hp54 | exact ans_wait h4 hc1 c36 c42 (Or.inl c63) ⟨hp84.1, hp84.2.1, hp84.2.2⟩ | exact ans_wait h4 hc1 c36 c42 (Or.inr ⟨c69, by rw [← h47]; exact c77⟩) ⟨hp84.1, hp84.2.1, hp84.2.2⟩ | exact ans_new hc1 c93 (by rw [← h47]; exact c100) hp116.1 hp116.2 | exact ans_no h4 c36 c42 (fun z => z.elim c63 (fun w => c69 w.1)) (fun z => c69 z.1) ⟨hG1, hC1, hc1⟩ | exact ans_no h4 c36 c42 (fun z => z.elim c63 (fun w => c77 (by rw [h47]; exact w.2))) (fun z => c93 z.1) ⟨hG1, hC1, hc1⟩ | exact ans_no h4 c36 c42 (fun z => z.elim c63 (fun w => c77 (by rw [h47]; exact w.2))) (fun z => c100 (by rw [h47]; exact z.2.1)) ⟨hG1, hC1, hc1⟩ | exact ans_no h4 c36 c42 (fun z => z.elim c63 (fun w => c77 (by rw [h47]; exact w.2))) (fun z => nlt_of_nI (N := 40) h41 (by omega) (by omega) (fun z => Int32.not_le.mpr z c109) z.2.2) ⟨hG1, hC1, hc1⟩⟩)
  refine q_iload F dX4_answer_39 rfl ?_
  refine q_iconst F dX4_answer_41 hc_2 ?_
  refine q_icmp_ne F 60 dX4_answer_42 rfl (fun c42 => ?_) (fun c42 => ?_)
  · refine q_iload F dX4_answer_60 rfl ?_
    refine q_iconst F dX4_answer_62 hc_4 ?_
    refine q_icmp_eq F 80 dX4_answer_63 rfl (fun c63 => ?_) (fun c63 => ?_)
    · refine q_aload_n F 0 dX4_answer_80 rfl rfl ?_
      refine q_iload_n F 1 dX4_answer_81 rfl rfl ?_
      refine q_iload_n F 2 dX4_answer_82 rfl rfl ?_
      refine q_iload_n F 3 dX4_answer_83 rfl rfl ?_
      refine q_callV_v F (c_X4_letWait hG1.1) gX4_answer_X4_letWait rfl hd_X4_letWait ⟨Nat.le_of_ble_eq_true rfl, Nat.le_of_ble_eq_true rfl⟩ (o_uF hG.1) rfl rfl rfl (Nat.le_of_ble_eq_true rfl) dX4_answer_84 ⟨Nat.le_of_ble_eq_true rfl, Nat.le_of_ble_eq_true rfl⟩ ?_
      have hp84 := cC_wait (name := name) (port := port) (key := key) hG1 hC1
      refine q_goto F 119 dX4_answer_87 rfl ?_
      refine q_iload F dX4_answer_119 rfl ?_
      exact q_x (q_reti F hr rfl dX4_answer_121 (Nat.le_of_ble_eq_true rfl) (Nat.le_of_ble_eq_true rfl) ⟨_, rfl, ⟨k3, by rw [k10, k14]; rfl⟩, rfl, by first | exact ans_see h4 hc1 (Or.inl c36) hp54 | exact ans_see h4 hc1 (Or.inr c42) hp54 | exact ans_wait h4 hc1 c36 c42 (Or.inl c63) ⟨hp84.1, hp84.2.1, hp84.2.2⟩ | exact ans_wait h4 hc1 c36 c42 (Or.inr ⟨c69, by rw [← h47]; exact c77⟩) ⟨hp84.1, hp84.2.1, hp84.2.2⟩ | exact ans_new hc1 c93 (by rw [← h47]; exact c100) hp116.1 hp116.2 | exact ans_no h4 c36 c42 (fun z => z.elim c63 (fun w => c69 w.1)) (fun z => c69 z.1) ⟨hG1, hC1, hc1⟩ | exact ans_no h4 c36 c42 (fun z => z.elim c63 (fun w => c77 (by rw [h47]; exact w.2))) (fun z => c93 z.1) ⟨hG1, hC1, hc1⟩ | exact ans_no h4 c36 c42 (fun z => z.elim c63 (fun w => c77 (by rw [h47]; exact w.2))) (fun z => c100 (by rw [h47]; exact z.2.1)) ⟨hG1, hC1, hc1⟩ | exact ans_no h4 c36 c42 (fun z => z.elim c63 (fun w => c77 (by rw [h47]; exact w.2))) (fun z => nlt_of_nI (N := 40) h41 (by omega) (by omega) (fun z => Int32.not_le.mpr z c109) z.2.2) ⟨hG1, hC1, hc1⟩⟩)
    refine q_iload F dX4_answer_66 rfl ?_
    refine q_iconst F dX4_answer_68 hc_5 ?_
    refine q_icmp_ne F 90 dX4_answer_69 rfl (fun c69 => ?_) (fun c69 => ?_)
    · refine q_iload F dX4_answer_90 rfl ?_
      refine q_iconst F dX4_answer_92 hc_5 ?_
      refine q_icmp_ne F 119 dX4_answer_93 rfl (fun c93 => ?_) (fun c93 => ?_)
      · refine q_iload F dX4_answer_119 rfl ?_
        exact q_x (q_reti F hr rfl dX4_answer_121 (Nat.le_of_ble_eq_true rfl) (Nat.le_of_ble_eq_true rfl) ⟨_, rfl, ⟨k3, by rw [k10, k14]; rfl⟩, rfl, by first | exact ans_see h4 hc1 (Or.inl c36) hp54 | exact ans_see h4 hc1 (Or.inr c42) hp54 | exact ans_wait h4 hc1 c36 c42 (Or.inl c63) ⟨hp84.1, hp84.2.1, hp84.2.2⟩ | exact ans_wait h4 hc1 c36 c42 (Or.inr ⟨c69, by rw [← h47]; exact c77⟩) ⟨hp84.1, hp84.2.1, hp84.2.2⟩ | exact ans_new hc1 c93 (by rw [← h47]; exact c100) hp116.1 hp116.2 | exact ans_no h4 c36 c42 (fun z => z.elim c63 (fun w => c69 w.1)) (fun z => c69 z.1) ⟨hG1, hC1, hc1⟩ | exact ans_no h4 c36 c42 (fun z => z.elim c63 (fun w => c77 (by rw [h47]; exact w.2))) (fun z => c93 z.1) ⟨hG1, hC1, hc1⟩ | exact ans_no h4 c36 c42 (fun z => z.elim c63 (fun w => c77 (by rw [h47]; exact w.2))) (fun z => c100 (by rw [h47]; exact z.2.1)) ⟨hG1, hC1, hc1⟩ | exact ans_no h4 c36 c42 (fun z => z.elim c63 (fun w => c77 (by rw [h47]; exact w.2))) (fun z => nlt_of_nI (N := 40) h41 (by omega) (by omega) (fun z => Int32.not_le.mpr z c109) z.2.2) ⟨hG1, hC1, hc1⟩⟩)
      refine q_aload_n F 0 dX4_answer_96 rfl rfl ?_
      refine qg_X4_27 F (o_uF hG1.1) dX4_answer_97 ?_
      refine q_if_ne F 119 dX4_answer_100 rfl (fun c100 => ?_) (fun c100 => ?_)
      · refine q_iload F dX4_answer_119 rfl ?_
        exact q_x (q_reti F hr rfl dX4_answer_121 (Nat.le_of_ble_eq_true rfl) (Nat.le_of_ble_eq_true rfl) ⟨_, rfl, ⟨k3, by rw [k10, k14]; rfl⟩, rfl, by first | exact ans_see h4 hc1 (Or.inl c36) hp54 | exact ans_see h4 hc1 (Or.inr c42) hp54 | exact ans_wait h4 hc1 c36 c42 (Or.inl c63) ⟨hp84.1, hp84.2.1, hp84.2.2⟩ | exact ans_wait h4 hc1 c36 c42 (Or.inr ⟨c69, by rw [← h47]; exact c77⟩) ⟨hp84.1, hp84.2.1, hp84.2.2⟩ | exact ans_new hc1 c93 (by rw [← h47]; exact c100) hp116.1 hp116.2 | exact ans_no h4 c36 c42 (fun z => z.elim c63 (fun w => c69 w.1)) (fun z => c69 z.1) ⟨hG1, hC1, hc1⟩ | exact ans_no h4 c36 c42 (fun z => z.elim c63 (fun w => c77 (by rw [h47]; exact w.2))) (fun z => c93 z.1) ⟨hG1, hC1, hc1⟩ | exact ans_no h4 c36 c42 (fun z => z.elim c63 (fun w => c77 (by rw [h47]; exact w.2))) (fun z => c100 (by rw [h47]; exact z.2.1)) ⟨hG1, hC1, hc1⟩ | exact ans_no h4 c36 c42 (fun z => z.elim c63 (fun w => c77 (by rw [h47]; exact w.2))) (fun z => nlt_of_nI (N := 40) h41 (by omega) (by omega) (fun z => Int32.not_le.mpr z c109) z.2.2) ⟨hG1, hC1, hc1⟩⟩)
      refine q_aload_n F 0 dX4_answer_103 rfl rfl ?_
      refine qg_X4_47 F (o_uF hG1.1) dX4_answer_104 ?_
      refine q_bipush (v := 40) F dX4_answer_107 (by decide) ?_
      refine q_icmp_ge F 119 dX4_answer_109 rfl (fun c109 => ?_) (fun c109 => ?_)
      · refine q_iload F dX4_answer_119 rfl ?_
        exact q_x (q_reti F hr rfl dX4_answer_121 (Nat.le_of_ble_eq_true rfl) (Nat.le_of_ble_eq_true rfl) ⟨_, rfl, ⟨k3, by rw [k10, k14]; rfl⟩, rfl, by first | exact ans_see h4 hc1 (Or.inl c36) hp54 | exact ans_see h4 hc1 (Or.inr c42) hp54 | exact ans_wait h4 hc1 c36 c42 (Or.inl c63) ⟨hp84.1, hp84.2.1, hp84.2.2⟩ | exact ans_wait h4 hc1 c36 c42 (Or.inr ⟨c69, by rw [← h47]; exact c77⟩) ⟨hp84.1, hp84.2.1, hp84.2.2⟩ | exact ans_new hc1 c93 (by rw [← h47]; exact c100) hp116.1 hp116.2 | exact ans_no h4 c36 c42 (fun z => z.elim c63 (fun w => c69 w.1)) (fun z => c69 z.1) ⟨hG1, hC1, hc1⟩ | exact ans_no h4 c36 c42 (fun z => z.elim c63 (fun w => c77 (by rw [h47]; exact w.2))) (fun z => c93 z.1) ⟨hG1, hC1, hc1⟩ | exact ans_no h4 c36 c42 (fun z => z.elim c63 (fun w => c77 (by rw [h47]; exact w.2))) (fun z => c100 (by rw [h47]; exact z.2.1)) ⟨hG1, hC1, hc1⟩ | exact ans_no h4 c36 c42 (fun z => z.elim c63 (fun w => c77 (by rw [h47]; exact w.2))) (fun z => nlt_of_nI (N := 40) h41 (by omega) (by omega) (fun z => Int32.not_le.mpr z c109) z.2.2) ⟨hG1, hC1, hc1⟩⟩)
      have hlt : n < 40 := lt_of_nI (N := 40) h41 (by omega) (by omega) (Int32.not_le.mp c109)
      refine q_aload_n F 0 dX4_answer_112 rfl rfl ?_
      refine q_iload_n F 1 dX4_answer_113 rfl rfl ?_
      refine q_iload_n F 2 dX4_answer_114 rfl rfl ?_
      refine q_iload_n F 3 dX4_answer_115 rfl rfl ?_
      refine q_callVX_gv F (c_X4_appendSighted hst hG1 hC1 hnm k14) gX4_answer_X4_appendSighted rfl hd_X4_appendSighted ⟨Nat.le_of_ble_eq_true rfl, Nat.le_of_ble_eq_true rfl⟩ (o_uF hG.1) rfl rfl rfl (Nat.le_of_ble_eq_true rfl) dX4_answer_116 ⟨Nat.le_of_ble_eq_true rfl, Nat.le_of_ble_eq_true rfl⟩ (fun E hE => absurd hlt (of_decide_eq_false hE.1)) (fun S116 hp116 => ?_)
      refine q_iload F dX4_answer_119 rfl ?_
      exact q_x (q_reti F hr rfl dX4_answer_121 (Nat.le_of_ble_eq_true rfl) (Nat.le_of_ble_eq_true rfl) ⟨_, rfl, ⟨k3, by rw [k10, k14]; rfl⟩, rfl, by first | exact ans_see h4 hc1 (Or.inl c36) hp54 | exact ans_see h4 hc1 (Or.inr c42) hp54 | exact ans_wait h4 hc1 c36 c42 (Or.inl c63) ⟨hp84.1, hp84.2.1, hp84.2.2⟩ | exact ans_wait h4 hc1 c36 c42 (Or.inr ⟨c69, by rw [← h47]; exact c77⟩) ⟨hp84.1, hp84.2.1, hp84.2.2⟩ | exact ans_new hc1 c93 (by rw [← h47]; exact c100) hp116.1 hp116.2 | exact ans_no h4 c36 c42 (fun z => z.elim c63 (fun w => c69 w.1)) (fun z => c69 z.1) ⟨hG1, hC1, hc1⟩ | exact ans_no h4 c36 c42 (fun z => z.elim c63 (fun w => c77 (by rw [h47]; exact w.2))) (fun z => c93 z.1) ⟨hG1, hC1, hc1⟩ | exact ans_no h4 c36 c42 (fun z => z.elim c63 (fun w => c77 (by rw [h47]; exact w.2))) (fun z => c100 (by rw [h47]; exact z.2.1)) ⟨hG1, hC1, hc1⟩ | exact ans_no h4 c36 c42 (fun z => z.elim c63 (fun w => c77 (by rw [h47]; exact w.2))) (fun z => nlt_of_nI (N := 40) h41 (by omega) (by omega) (fun z => Int32.not_le.mpr z c109) z.2.2) ⟨hG1, hC1, hc1⟩⟩)
    refine q_aload_n F 0 dX4_answer_72 rfl rfl ?_
    refine qg_X4_27 F (o_uF hG1.1) dX4_answer_73 ?_
    refine q_iconst F dX4_answer_76 hc_1 ?_
    refine q_icmp_ne F 90 dX4_answer_77 rfl (fun c77 => ?_) (fun c77 => ?_)
    · refine q_iload F dX4_answer_90 rfl ?_
      refine q_iconst F dX4_answer_92 hc_5 ?_
      refine q_icmp_ne F 119 dX4_answer_93 rfl (fun c93 => ?_) (fun c93 => ?_)
      · refine q_iload F dX4_answer_119 rfl ?_
        exact q_x (q_reti F hr rfl dX4_answer_121 (Nat.le_of_ble_eq_true rfl) (Nat.le_of_ble_eq_true rfl) ⟨_, rfl, ⟨k3, by rw [k10, k14]; rfl⟩, rfl, by first | exact ans_see h4 hc1 (Or.inl c36) hp54 | exact ans_see h4 hc1 (Or.inr c42) hp54 | exact ans_wait h4 hc1 c36 c42 (Or.inl c63) ⟨hp84.1, hp84.2.1, hp84.2.2⟩ | exact ans_wait h4 hc1 c36 c42 (Or.inr ⟨c69, by rw [← h47]; exact c77⟩) ⟨hp84.1, hp84.2.1, hp84.2.2⟩ | exact ans_new hc1 c93 (by rw [← h47]; exact c100) hp116.1 hp116.2 | exact ans_no h4 c36 c42 (fun z => z.elim c63 (fun w => c69 w.1)) (fun z => c69 z.1) ⟨hG1, hC1, hc1⟩ | exact ans_no h4 c36 c42 (fun z => z.elim c63 (fun w => c77 (by rw [h47]; exact w.2))) (fun z => c93 z.1) ⟨hG1, hC1, hc1⟩ | exact ans_no h4 c36 c42 (fun z => z.elim c63 (fun w => c77 (by rw [h47]; exact w.2))) (fun z => c100 (by rw [h47]; exact z.2.1)) ⟨hG1, hC1, hc1⟩ | exact ans_no h4 c36 c42 (fun z => z.elim c63 (fun w => c77 (by rw [h47]; exact w.2))) (fun z => nlt_of_nI (N := 40) h41 (by omega) (by omega) (fun z => Int32.not_le.mpr z c109) z.2.2) ⟨hG1, hC1, hc1⟩⟩)
      refine q_aload_n F 0 dX4_answer_96 rfl rfl ?_
      refine qg_X4_27 F (o_uF hG1.1) dX4_answer_97 ?_
      refine q_if_ne F 119 dX4_answer_100 rfl (fun c100 => ?_) (fun c100 => ?_)
      · refine q_iload F dX4_answer_119 rfl ?_
        exact q_x (q_reti F hr rfl dX4_answer_121 (Nat.le_of_ble_eq_true rfl) (Nat.le_of_ble_eq_true rfl) ⟨_, rfl, ⟨k3, by rw [k10, k14]; rfl⟩, rfl, by first | exact ans_see h4 hc1 (Or.inl c36) hp54 | exact ans_see h4 hc1 (Or.inr c42) hp54 | exact ans_wait h4 hc1 c36 c42 (Or.inl c63) ⟨hp84.1, hp84.2.1, hp84.2.2⟩ | exact ans_wait h4 hc1 c36 c42 (Or.inr ⟨c69, by rw [← h47]; exact c77⟩) ⟨hp84.1, hp84.2.1, hp84.2.2⟩ | exact ans_new hc1 c93 (by rw [← h47]; exact c100) hp116.1 hp116.2 | exact ans_no h4 c36 c42 (fun z => z.elim c63 (fun w => c69 w.1)) (fun z => c69 z.1) ⟨hG1, hC1, hc1⟩ | exact ans_no h4 c36 c42 (fun z => z.elim c63 (fun w => c77 (by rw [h47]; exact w.2))) (fun z => c93 z.1) ⟨hG1, hC1, hc1⟩ | exact ans_no h4 c36 c42 (fun z => z.elim c63 (fun w => c77 (by rw [h47]; exact w.2))) (fun z => c100 (by rw [h47]; exact z.2.1)) ⟨hG1, hC1, hc1⟩ | exact ans_no h4 c36 c42 (fun z => z.elim c63 (fun w => c77 (by rw [h47]; exact w.2))) (fun z => nlt_of_nI (N := 40) h41 (by omega) (by omega) (fun z => Int32.not_le.mpr z c109) z.2.2) ⟨hG1, hC1, hc1⟩⟩)
      refine q_aload_n F 0 dX4_answer_103 rfl rfl ?_
      refine qg_X4_47 F (o_uF hG1.1) dX4_answer_104 ?_
      refine q_bipush (v := 40) F dX4_answer_107 (by decide) ?_
      refine q_icmp_ge F 119 dX4_answer_109 rfl (fun c109 => ?_) (fun c109 => ?_)
      · refine q_iload F dX4_answer_119 rfl ?_
        exact q_x (q_reti F hr rfl dX4_answer_121 (Nat.le_of_ble_eq_true rfl) (Nat.le_of_ble_eq_true rfl) ⟨_, rfl, ⟨k3, by rw [k10, k14]; rfl⟩, rfl, by first | exact ans_see h4 hc1 (Or.inl c36) hp54 | exact ans_see h4 hc1 (Or.inr c42) hp54 | exact ans_wait h4 hc1 c36 c42 (Or.inl c63) ⟨hp84.1, hp84.2.1, hp84.2.2⟩ | exact ans_wait h4 hc1 c36 c42 (Or.inr ⟨c69, by rw [← h47]; exact c77⟩) ⟨hp84.1, hp84.2.1, hp84.2.2⟩ | exact ans_new hc1 c93 (by rw [← h47]; exact c100) hp116.1 hp116.2 | exact ans_no h4 c36 c42 (fun z => z.elim c63 (fun w => c69 w.1)) (fun z => c69 z.1) ⟨hG1, hC1, hc1⟩ | exact ans_no h4 c36 c42 (fun z => z.elim c63 (fun w => c77 (by rw [h47]; exact w.2))) (fun z => c93 z.1) ⟨hG1, hC1, hc1⟩ | exact ans_no h4 c36 c42 (fun z => z.elim c63 (fun w => c77 (by rw [h47]; exact w.2))) (fun z => c100 (by rw [h47]; exact z.2.1)) ⟨hG1, hC1, hc1⟩ | exact ans_no h4 c36 c42 (fun z => z.elim c63 (fun w => c77 (by rw [h47]; exact w.2))) (fun z => nlt_of_nI (N := 40) h41 (by omega) (by omega) (fun z => Int32.not_le.mpr z c109) z.2.2) ⟨hG1, hC1, hc1⟩⟩)
      have hlt : n < 40 := lt_of_nI (N := 40) h41 (by omega) (by omega) (Int32.not_le.mp c109)
      refine q_aload_n F 0 dX4_answer_112 rfl rfl ?_
      refine q_iload_n F 1 dX4_answer_113 rfl rfl ?_
      refine q_iload_n F 2 dX4_answer_114 rfl rfl ?_
      refine q_iload_n F 3 dX4_answer_115 rfl rfl ?_
      refine q_callVX_gv F (c_X4_appendSighted hst hG1 hC1 hnm k14) gX4_answer_X4_appendSighted rfl hd_X4_appendSighted ⟨Nat.le_of_ble_eq_true rfl, Nat.le_of_ble_eq_true rfl⟩ (o_uF hG.1) rfl rfl rfl (Nat.le_of_ble_eq_true rfl) dX4_answer_116 ⟨Nat.le_of_ble_eq_true rfl, Nat.le_of_ble_eq_true rfl⟩ (fun E hE => absurd hlt (of_decide_eq_false hE.1)) (fun S116 hp116 => ?_)
      refine q_iload F dX4_answer_119 rfl ?_
      exact q_x (q_reti F hr rfl dX4_answer_121 (Nat.le_of_ble_eq_true rfl) (Nat.le_of_ble_eq_true rfl) ⟨_, rfl, ⟨k3, by rw [k10, k14]; rfl⟩, rfl, by first | exact ans_see h4 hc1 (Or.inl c36) hp54 | exact ans_see h4 hc1 (Or.inr c42) hp54 | exact ans_wait h4 hc1 c36 c42 (Or.inl c63) ⟨hp84.1, hp84.2.1, hp84.2.2⟩ | exact ans_wait h4 hc1 c36 c42 (Or.inr ⟨c69, by rw [← h47]; exact c77⟩) ⟨hp84.1, hp84.2.1, hp84.2.2⟩ | exact ans_new hc1 c93 (by rw [← h47]; exact c100) hp116.1 hp116.2 | exact ans_no h4 c36 c42 (fun z => z.elim c63 (fun w => c69 w.1)) (fun z => c69 z.1) ⟨hG1, hC1, hc1⟩ | exact ans_no h4 c36 c42 (fun z => z.elim c63 (fun w => c77 (by rw [h47]; exact w.2))) (fun z => c93 z.1) ⟨hG1, hC1, hc1⟩ | exact ans_no h4 c36 c42 (fun z => z.elim c63 (fun w => c77 (by rw [h47]; exact w.2))) (fun z => c100 (by rw [h47]; exact z.2.1)) ⟨hG1, hC1, hc1⟩ | exact ans_no h4 c36 c42 (fun z => z.elim c63 (fun w => c77 (by rw [h47]; exact w.2))) (fun z => nlt_of_nI (N := 40) h41 (by omega) (by omega) (fun z => Int32.not_le.mpr z c109) z.2.2) ⟨hG1, hC1, hc1⟩⟩)
    refine q_aload_n F 0 dX4_answer_80 rfl rfl ?_
    refine q_iload_n F 1 dX4_answer_81 rfl rfl ?_
    refine q_iload_n F 2 dX4_answer_82 rfl rfl ?_
    refine q_iload_n F 3 dX4_answer_83 rfl rfl ?_
    refine q_callV_v F (c_X4_letWait hG1.1) gX4_answer_X4_letWait rfl hd_X4_letWait ⟨Nat.le_of_ble_eq_true rfl, Nat.le_of_ble_eq_true rfl⟩ (o_uF hG.1) rfl rfl rfl (Nat.le_of_ble_eq_true rfl) dX4_answer_84 ⟨Nat.le_of_ble_eq_true rfl, Nat.le_of_ble_eq_true rfl⟩ ?_
    have hp84 := cC_wait (name := name) (port := port) (key := key) hG1 hC1
    refine q_goto F 119 dX4_answer_87 rfl ?_
    refine q_iload F dX4_answer_119 rfl ?_
    exact q_x (q_reti F hr rfl dX4_answer_121 (Nat.le_of_ble_eq_true rfl) (Nat.le_of_ble_eq_true rfl) ⟨_, rfl, ⟨k3, by rw [k10, k14]; rfl⟩, rfl, by first | exact ans_see h4 hc1 (Or.inl c36) hp54 | exact ans_see h4 hc1 (Or.inr c42) hp54 | exact ans_wait h4 hc1 c36 c42 (Or.inl c63) ⟨hp84.1, hp84.2.1, hp84.2.2⟩ | exact ans_wait h4 hc1 c36 c42 (Or.inr ⟨c69, by rw [← h47]; exact c77⟩) ⟨hp84.1, hp84.2.1, hp84.2.2⟩ | exact ans_new hc1 c93 (by rw [← h47]; exact c100) hp116.1 hp116.2 | exact ans_no h4 c36 c42 (fun z => z.elim c63 (fun w => c69 w.1)) (fun z => c69 z.1) ⟨hG1, hC1, hc1⟩ | exact ans_no h4 c36 c42 (fun z => z.elim c63 (fun w => c77 (by rw [h47]; exact w.2))) (fun z => c93 z.1) ⟨hG1, hC1, hc1⟩ | exact ans_no h4 c36 c42 (fun z => z.elim c63 (fun w => c77 (by rw [h47]; exact w.2))) (fun z => c100 (by rw [h47]; exact z.2.1)) ⟨hG1, hC1, hc1⟩ | exact ans_no h4 c36 c42 (fun z => z.elim c63 (fun w => c77 (by rw [h47]; exact w.2))) (fun z => nlt_of_nI (N := 40) h41 (by omega) (by omega) (fun z => Int32.not_le.mpr z c109) z.2.2) ⟨hG1, hC1, hc1⟩⟩)
  refine q_aload_n F 0 dX4_answer_45 rfl rfl ?_
  refine q_iload_n F 1 dX4_answer_46 rfl rfl ?_
  refine q_iload_n F 2 dX4_answer_47 rfl rfl ?_
  refine q_iload_n F 3 dX4_answer_48 rfl rfl ?_
  refine q_aload F dX4_answer_49 rfl ?_
  refine q_callS_i F (c_X4_authorityOf (o_uF hR.1)) gX4_answer_X4_authorityOf rfl hd_X4_authorityOf ⟨Nat.le_of_ble_eq_true rfl, Nat.le_of_ble_eq_true rfl⟩ rfl rfl (Nat.le_of_ble_eq_true rfl) dX4_answer_51 ⟨Nat.le_of_ble_eq_true rfl, Nat.le_of_ble_eq_true rfl⟩ ?_
  refine q_top (v' := .int (M 18 ci)) ?_ (congrArg Value.int (hR.2.1))
  refine q_callV_gv F (c_X4_seeToday hG1 hC1) gX4_answer_X4_seeToday rfl hd_X4_seeToday ⟨Nat.le_of_ble_eq_true rfl, Nat.le_of_ble_eq_true rfl⟩ (o_uF hG.1) rfl rfl rfl (Nat.le_of_ble_eq_true rfl) dX4_answer_54 ⟨Nat.le_of_ble_eq_true rfl, Nat.le_of_ble_eq_true rfl⟩ (fun S54 hp54 => ?_)
  refine q_goto F 119 dX4_answer_57 rfl ?_
  refine q_iload F dX4_answer_119 rfl ?_
  exact q_x (q_reti F hr rfl dX4_answer_121 (Nat.le_of_ble_eq_true rfl) (Nat.le_of_ble_eq_true rfl) ⟨_, rfl, ⟨k3, by rw [k10, k14]; rfl⟩, rfl, by first | exact ans_see h4 hc1 (Or.inl c36) hp54 | exact ans_see h4 hc1 (Or.inr c42) hp54 | exact ans_wait h4 hc1 c36 c42 (Or.inl c63) ⟨hp84.1, hp84.2.1, hp84.2.2⟩ | exact ans_wait h4 hc1 c36 c42 (Or.inr ⟨c69, by rw [← h47]; exact c77⟩) ⟨hp84.1, hp84.2.1, hp84.2.2⟩ | exact ans_new hc1 c93 (by rw [← h47]; exact c100) hp116.1 hp116.2 | exact ans_no h4 c36 c42 (fun z => z.elim c63 (fun w => c69 w.1)) (fun z => c69 z.1) ⟨hG1, hC1, hc1⟩ | exact ans_no h4 c36 c42 (fun z => z.elim c63 (fun w => c77 (by rw [h47]; exact w.2))) (fun z => c93 z.1) ⟨hG1, hC1, hc1⟩ | exact ans_no h4 c36 c42 (fun z => z.elim c63 (fun w => c77 (by rw [h47]; exact w.2))) (fun z => c100 (by rw [h47]; exact z.2.1)) ⟨hG1, hC1, hc1⟩ | exact ans_no h4 c36 c42 (fun z => z.elim c63 (fun w => c77 (by rw [h47]; exact w.2))) (fun z => nlt_of_nI (N := 40) h41 (by omega) (by omega) (fun z => Int32.not_le.mpr z c109) z.2.2) ⟨hG1, hC1, hc1⟩⟩)


