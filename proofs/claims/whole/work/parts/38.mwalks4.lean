theorem n40 {n : Nat} (h : (40 : Int32) ≤ nI n) : ¬ n < 40 := fun z => Int32.not_le.mpr (show nI n < nI 40 from nI_lt z (by decide)) h
theorem y40 {n : Nat} (hn : n ≤ 40) (h : ¬ (40 : Int32) ≤ nI n) : n < 40 := by
  rcases Nat.lt_or_ge n 40 with z | z
  · exact z
  · exact absurd (show nI 40 ≤ nI n from nI_le z (by omega)) h
theorem sz_see {b : Nat → Bool} {d : Int32} {M : Nat → Nat → Int32} {n m : Nat} (h : ∀ i, i < n → ∃ k, k ≤ 4 ∧ M 12 i = nI k) : ∀ i, i < n → ∃ k, k ≤ 4 ∧ aSee b d M m 12 i = nI k := fun i hi => by
  rw [aSee_f (by decide)]
  exact h i hi

set_option maxHeartbeats 4000000 in
set_option maxRecDepth 100000 in
theorem c_X5_answer_n {l : Launch} {g : hG} {X : va_W} {S : hS} {md : Nat} {ar : Nat → Nat} {sc : Nat → Int32} {M : Nat → Nat → Int32} (hM : mS S md ar sc M) {n : Nat} (hn : sc 4 = nI n) (hn40 : n ≤ 40) (hsz : ∀ i, i < n → ∃ k, k ≤ 4 ∧ M 12 i = nI k) {ns : Nat} (hs : sc 25 = nI ns) (hs20 : ns ≤ 20) {nc : Nat} (hc : sc 17 = nI nc) (hc20 : nc ≤ 20) {name port key : Int32} (hB1 : (okNP name port && okK key) = true) : hMet l yX5_answer wsX5_answer rm_X5_answer g X S [.ref md, .int name, .int port, .int key, .int (-1)] (mI S md ar (jg (sc 1) M n ns name port key none) (scN (aW (va_up sc 0 0) (jg (sc 1) M n ns name port key none) name port key) (aAns (va_up sc 0 0) M n (jg (sc 1) M n ns name port key none) key name port key).2) (aAns (va_up sc 0 0) M n (jg (sc 1) M n ns name port key none) key name port key).1) := by
  refine h_start (maxL := 7) (ret := (some .int)) (by decide) rfl (Nat.le_of_ble_eq_true rfl) ?_
  intro p e s m args below meth c F hr hinit
  have hm := mdF.rf S
  refine q_aload_n F 0 dX5_answer_0 rfl rfl ?_
  refine q_iload_n F 1 dX5_answer_1 rfl rfl ?_
  refine q_iload_n F 2 dX5_answer_2 rfl rfl ?_
  refine q_iload_n F 3 dX5_answer_3 rfl rfl ?_
  refine q_iload F dX5_answer_4 rfl ?_
  refine q_callV_gi F (c_X5_isJudged_2 hM hc hc20 rfl hB1) gX5_answer_X5_isJudged rfl hd_X5_isJudged ⟨Nat.le_of_ble_eq_true rfl, Nat.le_of_ble_eq_true rfl⟩ hM.1.1 rfl rfl rfl (Nat.le_of_ble_eq_true rfl) dX5_answer_6 ⟨Nat.le_of_ble_eq_true rfl, Nat.le_of_ble_eq_true rfl⟩ (fun r6 S6 hp6 => ?_)
  obtain ⟨rfl, hM, hm6⟩ := hp6
  have hm := hm.trans hm6
  refine q_if_ne F 14 dX5_answer_9 rfl (fun c9 => ?_) (fun c9 => ?_)
  · refine q_aload_n F 0 dX5_answer_14 rfl rfl ?_
    refine q_iload_n F 1 dX5_answer_15 rfl rfl ?_
    refine q_iload_n F 2 dX5_answer_16 rfl rfl ?_
    refine q_iload_n F 3 dX5_answer_17 rfl rfl ?_
    refine q_iload F dX5_answer_18 rfl ?_
    refine q_callV_i F (c_X5_judgement_n hM hn hn40 hsz hs hs20) gX5_answer_X5_judgement rfl hd_X5_judgement ⟨Nat.le_of_ble_eq_true rfl, Nat.le_of_ble_eq_true rfl⟩ hM.1.1 rfl rfl rfl (Nat.le_of_ble_eq_true rfl) dX5_answer_20 ⟨Nat.le_of_ble_eq_true rfl, Nat.le_of_ble_eq_true rfl⟩ ?_
    refine q_top (v' := .int (jg (sc 1) M n ns name port key none)) ?_ rfl
    refine q_istore F dX5_answer_23 (by decide) rfl ?_
    refine q_iload F dX5_answer_25 rfl ?_
    refine q_iconst F dX5_answer_27 hc_5 ?_
    refine q_icmp_ne F 39 dX5_answer_28 rfl (fun c28 => ?_) (fun c28 => ?_)
    · refine q_iload F dX5_answer_39 rfl ?_
      refine q_iconst F dX5_answer_41 hc_4 ?_
      refine q_icmp_ne F 49 dX5_answer_42 rfl (fun c42 => ?_) (fun c42 => ?_)
      · refine q_iconst F dX5_answer_49 hc_0 ?_
        refine q_istore F dX5_answer_50 (by decide) rfl ?_
        refine q_aload_n F 0 dX5_answer_52 rfl rfl ?_
        refine q_iload F dX5_answer_53 rfl ?_
        refine q_if_eq F 62 dX5_answer_55 rfl (fun c55 => ?_) (fun c55 => ?_)
        · refine q_iconst F dX5_answer_62 hc_m1 ?_
          refine qp_X5_81 F hM.1.1 dX5_answer_63 ?_
          refine q_mF 29 hM hm (fun S63 hM hm => ?_)
          refine q_aload_n F 0 dX5_answer_66 rfl rfl ?_
          refine q_iload_n F 1 dX5_answer_67 rfl rfl ?_
          refine qp_X5_179 F hM.1.1 dX5_answer_68 ?_
          refine q_mF 30 hM hm (fun S68 hM hm => ?_)
          refine q_aload_n F 0 dX5_answer_71 rfl rfl ?_
          refine q_iload_n F 2 dX5_answer_72 rfl rfl ?_
          refine qp_X5_182 F hM.1.1 dX5_answer_73 ?_
          refine q_mF 31 hM hm (fun S73 hM hm => ?_)
          refine q_iload F dX5_answer_76 rfl ?_
          refine q_iconst F dX5_answer_78 hc_1 ?_
          refine q_icmp_eq F 88 dX5_answer_79 rfl (fun c79 => ?_) (fun c79 => ?_)
          · refine q_aload_n F 0 dX5_answer_88 rfl rfl ?_
            refine q_iload_n F 1 dX5_answer_89 rfl rfl ?_
            refine q_iload_n F 2 dX5_answer_90 rfl rfl ?_
            refine q_iload_n F 3 dX5_answer_91 rfl rfl ?_
            refine q_callV_gv F (c_X5_sees hM hn hn40 hsz) gX5_answer_X5_sees rfl hd_X5_sees ⟨Nat.le_of_ble_eq_true rfl, Nat.le_of_ble_eq_true rfl⟩ hM.1.1 rfl rfl rfl (Nat.le_of_ble_eq_true rfl) dX5_answer_92 ⟨Nat.le_of_ble_eq_true rfl, Nat.le_of_ble_eq_true rfl⟩ (fun S92 hp92 => ?_)
            obtain ⟨hM, hm92⟩ := hp92
            have hm := hm.trans hm92
            refine q_iload F dX5_answer_95 rfl ?_
            refine q_iconst F dX5_answer_97 hc_m1 ?_
            refine q_icmp_eq F 114 dX5_answer_98 rfl (fun c98 => ?_) (fun c98 => ?_)
            · refine q_iload F dX5_answer_114 rfl ?_
              refine q_iconst F dX5_answer_116 hc_5 ?_
              refine q_icmp_ne F 143 dX5_answer_117 rfl (fun c117 => ?_) (fun c117 => ?_)
              · refine q_iload F dX5_answer_143 rfl ?_
                exact (q_reti F hr rfl dX5_answer_145 (Nat.le_of_ble_eq_true rfl) (Nat.le_of_ble_eq_true rfl) ⟨_, rfl, rfl, by first | exact ansM_see (sc := va_up sc 0 0) hn (Or.inl c79) hM | exact ansM_see (sc := va_up sc 0 0) hn (Or.inr c85) hM | exact ansM_new (sc := va_up sc 0 0) c117 c124 hlt hM | exact ansM_no (sc := va_up sc 0 0) key hn c79 c85 (n5A c117) (wkA c28 c36) hM | exact ansM_no (sc := va_up sc 0 0) key hn c79 c85 (n5A c117) (wkB c42) hM | exact ansM_no (sc := va_up sc 0 0) (-1) hn c79 c85 (n5A c117) (wkC c42 c36) hM | exact ansM_no (sc := va_up sc 0 0) (-1) hn c79 c85 (n5A c117) (wkD c42 c28) hM | exact ansM_no (sc := va_up sc 0 0) key hn c79 c85 (n5B c124) (wkA c28 c36) hM | exact ansM_no (sc := va_up sc 0 0) key hn c79 c85 (n5B c124) (wkB c42) hM | exact ansM_no (sc := va_up sc 0 0) (-1) hn c79 c85 (n5B c124) (wkC c42 c36) hM | exact ansM_no (sc := va_up sc 0 0) (-1) hn c79 c85 (n5B c124) (wkD c42 c28) hM | exact ansM_no (sc := va_up sc 0 0) key hn c79 c85 (n5C c133) (wkA c28 c36) hM | exact ansM_no (sc := va_up sc 0 0) key hn c79 c85 (n5C c133) (wkB c42) hM | exact ansM_no (sc := va_up sc 0 0) (-1) hn c79 c85 (n5C c133) (wkC c42 c36) hM | exact ansM_no (sc := va_up sc 0 0) (-1) hn c79 c85 (n5C c133) (wkD c42 c28) hM | exact xI (by decide) c28 c42 | exact xI (by decide) c79 c42 | exact xI (by decide) c85 c42 | exact xI (by decide) c79 c28 | exact xI (by decide) c85 c28 | exact xI (by decide) c117 c42 | exact xI (by decide) c36 c124, hm⟩)
              exact absurd c117 (by first | (rw [c79]; decide) | (rw [c85]; decide))
            exact absurd c98 (by decide)
          refine q_iload F dX5_answer_82 rfl ?_
          refine q_iconst F dX5_answer_84 hc_2 ?_
          refine q_icmp_ne F 114 dX5_answer_85 rfl (fun c85 => ?_) (fun c85 => ?_)
          · refine q_iload F dX5_answer_114 rfl ?_
            refine q_iconst F dX5_answer_116 hc_5 ?_
            refine q_icmp_ne F 143 dX5_answer_117 rfl (fun c117 => ?_) (fun c117 => ?_)
            · refine q_iload F dX5_answer_143 rfl ?_
              exact (q_reti F hr rfl dX5_answer_145 (Nat.le_of_ble_eq_true rfl) (Nat.le_of_ble_eq_true rfl) ⟨_, rfl, rfl, by first | exact ansM_see (sc := va_up sc 0 0) hn (Or.inl c79) hM | exact ansM_see (sc := va_up sc 0 0) hn (Or.inr c85) hM | exact ansM_new (sc := va_up sc 0 0) c117 c124 hlt hM | exact ansM_no (sc := va_up sc 0 0) key hn c79 c85 (n5A c117) (wkA c28 c36) hM | exact ansM_no (sc := va_up sc 0 0) key hn c79 c85 (n5A c117) (wkB c42) hM | exact ansM_no (sc := va_up sc 0 0) (-1) hn c79 c85 (n5A c117) (wkC c42 c36) hM | exact ansM_no (sc := va_up sc 0 0) (-1) hn c79 c85 (n5A c117) (wkD c42 c28) hM | exact ansM_no (sc := va_up sc 0 0) key hn c79 c85 (n5B c124) (wkA c28 c36) hM | exact ansM_no (sc := va_up sc 0 0) key hn c79 c85 (n5B c124) (wkB c42) hM | exact ansM_no (sc := va_up sc 0 0) (-1) hn c79 c85 (n5B c124) (wkC c42 c36) hM | exact ansM_no (sc := va_up sc 0 0) (-1) hn c79 c85 (n5B c124) (wkD c42 c28) hM | exact ansM_no (sc := va_up sc 0 0) key hn c79 c85 (n5C c133) (wkA c28 c36) hM | exact ansM_no (sc := va_up sc 0 0) key hn c79 c85 (n5C c133) (wkB c42) hM | exact ansM_no (sc := va_up sc 0 0) (-1) hn c79 c85 (n5C c133) (wkC c42 c36) hM | exact ansM_no (sc := va_up sc 0 0) (-1) hn c79 c85 (n5C c133) (wkD c42 c28) hM | exact xI (by decide) c28 c42 | exact xI (by decide) c79 c42 | exact xI (by decide) c85 c42 | exact xI (by decide) c79 c28 | exact xI (by decide) c85 c28 | exact xI (by decide) c117 c42 | exact xI (by decide) c36 c124, hm⟩)
            refine q_aload_n F 0 dX5_answer_120 rfl rfl ?_
            refine qg_X5_7 F hM.1.1 dX5_answer_121 ?_
            refine q_mg 2 (sc 2) rfl hM rfl ?_
            refine q_if_ne F 143 dX5_answer_124 rfl (fun c124 => ?_) (fun c124 => ?_)
            · refine q_iload F dX5_answer_143 rfl ?_
              exact (q_reti F hr rfl dX5_answer_145 (Nat.le_of_ble_eq_true rfl) (Nat.le_of_ble_eq_true rfl) ⟨_, rfl, rfl, by first | exact ansM_see (sc := va_up sc 0 0) hn (Or.inl c79) hM | exact ansM_see (sc := va_up sc 0 0) hn (Or.inr c85) hM | exact ansM_new (sc := va_up sc 0 0) c117 c124 hlt hM | exact ansM_no (sc := va_up sc 0 0) key hn c79 c85 (n5A c117) (wkA c28 c36) hM | exact ansM_no (sc := va_up sc 0 0) key hn c79 c85 (n5A c117) (wkB c42) hM | exact ansM_no (sc := va_up sc 0 0) (-1) hn c79 c85 (n5A c117) (wkC c42 c36) hM | exact ansM_no (sc := va_up sc 0 0) (-1) hn c79 c85 (n5A c117) (wkD c42 c28) hM | exact ansM_no (sc := va_up sc 0 0) key hn c79 c85 (n5B c124) (wkA c28 c36) hM | exact ansM_no (sc := va_up sc 0 0) key hn c79 c85 (n5B c124) (wkB c42) hM | exact ansM_no (sc := va_up sc 0 0) (-1) hn c79 c85 (n5B c124) (wkC c42 c36) hM | exact ansM_no (sc := va_up sc 0 0) (-1) hn c79 c85 (n5B c124) (wkD c42 c28) hM | exact ansM_no (sc := va_up sc 0 0) key hn c79 c85 (n5C c133) (wkA c28 c36) hM | exact ansM_no (sc := va_up sc 0 0) key hn c79 c85 (n5C c133) (wkB c42) hM | exact ansM_no (sc := va_up sc 0 0) (-1) hn c79 c85 (n5C c133) (wkC c42 c36) hM | exact ansM_no (sc := va_up sc 0 0) (-1) hn c79 c85 (n5C c133) (wkD c42 c28) hM | exact xI (by decide) c28 c42 | exact xI (by decide) c79 c42 | exact xI (by decide) c85 c42 | exact xI (by decide) c79 c28 | exact xI (by decide) c85 c28 | exact xI (by decide) c117 c42 | exact xI (by decide) c36 c124, hm⟩)
            refine q_aload_n F 0 dX5_answer_127 rfl rfl ?_
            refine qg_X5_91 F hM.1.1 dX5_answer_128 ?_
            refine q_mg 4 (nI n) rfl hM hn ?_
            refine q_bipush (v := 40) F dX5_answer_131 (by decide) ?_
            refine q_icmp_ge F 143 dX5_answer_133 rfl (fun c133 => ?_) (fun c133 => ?_)
            · refine q_iload F dX5_answer_143 rfl ?_
              exact (q_reti F hr rfl dX5_answer_145 (Nat.le_of_ble_eq_true rfl) (Nat.le_of_ble_eq_true rfl) ⟨_, rfl, rfl, by first | exact ansM_see (sc := va_up sc 0 0) hn (Or.inl c79) hM | exact ansM_see (sc := va_up sc 0 0) hn (Or.inr c85) hM | exact ansM_new (sc := va_up sc 0 0) c117 c124 hlt hM | exact ansM_no (sc := va_up sc 0 0) key hn c79 c85 (n5A c117) (wkA c28 c36) hM | exact ansM_no (sc := va_up sc 0 0) key hn c79 c85 (n5A c117) (wkB c42) hM | exact ansM_no (sc := va_up sc 0 0) (-1) hn c79 c85 (n5A c117) (wkC c42 c36) hM | exact ansM_no (sc := va_up sc 0 0) (-1) hn c79 c85 (n5A c117) (wkD c42 c28) hM | exact ansM_no (sc := va_up sc 0 0) key hn c79 c85 (n5B c124) (wkA c28 c36) hM | exact ansM_no (sc := va_up sc 0 0) key hn c79 c85 (n5B c124) (wkB c42) hM | exact ansM_no (sc := va_up sc 0 0) (-1) hn c79 c85 (n5B c124) (wkC c42 c36) hM | exact ansM_no (sc := va_up sc 0 0) (-1) hn c79 c85 (n5B c124) (wkD c42 c28) hM | exact ansM_no (sc := va_up sc 0 0) key hn c79 c85 (n5C c133) (wkA c28 c36) hM | exact ansM_no (sc := va_up sc 0 0) key hn c79 c85 (n5C c133) (wkB c42) hM | exact ansM_no (sc := va_up sc 0 0) (-1) hn c79 c85 (n5C c133) (wkC c42 c36) hM | exact ansM_no (sc := va_up sc 0 0) (-1) hn c79 c85 (n5C c133) (wkD c42 c28) hM | exact xI (by decide) c28 c42 | exact xI (by decide) c79 c42 | exact xI (by decide) c85 c42 | exact xI (by decide) c79 c28 | exact xI (by decide) c85 c28 | exact xI (by decide) c117 c42 | exact xI (by decide) c36 c124, hm⟩)
            have hlt : n < 40 := y40 hn40 c133
            refine q_aload_n F 0 dX5_answer_136 rfl rfl ?_
            refine q_iload_n F 1 dX5_answer_137 rfl rfl ?_
            refine q_iload_n F 2 dX5_answer_138 rfl rfl ?_
            refine q_iload_n F 3 dX5_answer_139 rfl rfl ?_
            refine q_callV_gv F (c_X5_trusts hM hn hlt) gX5_answer_X5_trusts rfl hd_X5_trusts ⟨Nat.le_of_ble_eq_true rfl, Nat.le_of_ble_eq_true rfl⟩ hM.1.1 rfl rfl rfl (Nat.le_of_ble_eq_true rfl) dX5_answer_140 ⟨Nat.le_of_ble_eq_true rfl, Nat.le_of_ble_eq_true rfl⟩ (fun S140 hp140 => ?_)
            obtain ⟨hM, hm140⟩ := hp140
            have hm := hm.trans hm140
            refine q_iload F dX5_answer_143 rfl ?_
            exact (q_reti F hr rfl dX5_answer_145 (Nat.le_of_ble_eq_true rfl) (Nat.le_of_ble_eq_true rfl) ⟨_, rfl, rfl, by first | exact ansM_see (sc := va_up sc 0 0) hn (Or.inl c79) hM | exact ansM_see (sc := va_up sc 0 0) hn (Or.inr c85) hM | exact ansM_new (sc := va_up sc 0 0) c117 c124 hlt hM | exact ansM_no (sc := va_up sc 0 0) key hn c79 c85 (n5A c117) (wkA c28 c36) hM | exact ansM_no (sc := va_up sc 0 0) key hn c79 c85 (n5A c117) (wkB c42) hM | exact ansM_no (sc := va_up sc 0 0) (-1) hn c79 c85 (n5A c117) (wkC c42 c36) hM | exact ansM_no (sc := va_up sc 0 0) (-1) hn c79 c85 (n5A c117) (wkD c42 c28) hM | exact ansM_no (sc := va_up sc 0 0) key hn c79 c85 (n5B c124) (wkA c28 c36) hM | exact ansM_no (sc := va_up sc 0 0) key hn c79 c85 (n5B c124) (wkB c42) hM | exact ansM_no (sc := va_up sc 0 0) (-1) hn c79 c85 (n5B c124) (wkC c42 c36) hM | exact ansM_no (sc := va_up sc 0 0) (-1) hn c79 c85 (n5B c124) (wkD c42 c28) hM | exact ansM_no (sc := va_up sc 0 0) key hn c79 c85 (n5C c133) (wkA c28 c36) hM | exact ansM_no (sc := va_up sc 0 0) key hn c79 c85 (n5C c133) (wkB c42) hM | exact ansM_no (sc := va_up sc 0 0) (-1) hn c79 c85 (n5C c133) (wkC c42 c36) hM | exact ansM_no (sc := va_up sc 0 0) (-1) hn c79 c85 (n5C c133) (wkD c42 c28) hM | exact xI (by decide) c28 c42 | exact xI (by decide) c79 c42 | exact xI (by decide) c85 c42 | exact xI (by decide) c79 c28 | exact xI (by decide) c85 c28 | exact xI (by decide) c117 c42 | exact xI (by decide) c36 c124, hm⟩)
          refine q_aload_n F 0 dX5_answer_88 rfl rfl ?_
          refine q_iload_n F 1 dX5_answer_89 rfl rfl ?_
          refine q_iload_n F 2 dX5_answer_90 rfl rfl ?_
          refine q_iload_n F 3 dX5_answer_91 rfl rfl ?_
          refine q_callV_gv F (c_X5_sees hM hn hn40 hsz) gX5_answer_X5_sees rfl hd_X5_sees ⟨Nat.le_of_ble_eq_true rfl, Nat.le_of_ble_eq_true rfl⟩ hM.1.1 rfl rfl rfl (Nat.le_of_ble_eq_true rfl) dX5_answer_92 ⟨Nat.le_of_ble_eq_true rfl, Nat.le_of_ble_eq_true rfl⟩ (fun S92 hp92 => ?_)
          obtain ⟨hM, hm92⟩ := hp92
          have hm := hm.trans hm92
          refine q_iload F dX5_answer_95 rfl ?_
          refine q_iconst F dX5_answer_97 hc_m1 ?_
          refine q_icmp_eq F 114 dX5_answer_98 rfl (fun c98 => ?_) (fun c98 => ?_)
          · refine q_iload F dX5_answer_114 rfl ?_
            refine q_iconst F dX5_answer_116 hc_5 ?_
            refine q_icmp_ne F 143 dX5_answer_117 rfl (fun c117 => ?_) (fun c117 => ?_)
            · refine q_iload F dX5_answer_143 rfl ?_
              exact (q_reti F hr rfl dX5_answer_145 (Nat.le_of_ble_eq_true rfl) (Nat.le_of_ble_eq_true rfl) ⟨_, rfl, rfl, by first | exact ansM_see (sc := va_up sc 0 0) hn (Or.inl c79) hM | exact ansM_see (sc := va_up sc 0 0) hn (Or.inr c85) hM | exact ansM_new (sc := va_up sc 0 0) c117 c124 hlt hM | exact ansM_no (sc := va_up sc 0 0) key hn c79 c85 (n5A c117) (wkA c28 c36) hM | exact ansM_no (sc := va_up sc 0 0) key hn c79 c85 (n5A c117) (wkB c42) hM | exact ansM_no (sc := va_up sc 0 0) (-1) hn c79 c85 (n5A c117) (wkC c42 c36) hM | exact ansM_no (sc := va_up sc 0 0) (-1) hn c79 c85 (n5A c117) (wkD c42 c28) hM | exact ansM_no (sc := va_up sc 0 0) key hn c79 c85 (n5B c124) (wkA c28 c36) hM | exact ansM_no (sc := va_up sc 0 0) key hn c79 c85 (n5B c124) (wkB c42) hM | exact ansM_no (sc := va_up sc 0 0) (-1) hn c79 c85 (n5B c124) (wkC c42 c36) hM | exact ansM_no (sc := va_up sc 0 0) (-1) hn c79 c85 (n5B c124) (wkD c42 c28) hM | exact ansM_no (sc := va_up sc 0 0) key hn c79 c85 (n5C c133) (wkA c28 c36) hM | exact ansM_no (sc := va_up sc 0 0) key hn c79 c85 (n5C c133) (wkB c42) hM | exact ansM_no (sc := va_up sc 0 0) (-1) hn c79 c85 (n5C c133) (wkC c42 c36) hM | exact ansM_no (sc := va_up sc 0 0) (-1) hn c79 c85 (n5C c133) (wkD c42 c28) hM | exact xI (by decide) c28 c42 | exact xI (by decide) c79 c42 | exact xI (by decide) c85 c42 | exact xI (by decide) c79 c28 | exact xI (by decide) c85 c28 | exact xI (by decide) c117 c42 | exact xI (by decide) c36 c124, hm⟩)
            exact absurd c117 (by first | (rw [c79]; decide) | (rw [c85]; decide))
          exact absurd c98 (by decide)
        exact absurd c55 (by decide)
      refine q_iconst F dX5_answer_45 hc_1 ?_
      refine q_goto F 50 dX5_answer_46 rfl ?_
      refine q_istore F dX5_answer_50 (by decide) rfl ?_
      refine q_aload_n F 0 dX5_answer_52 rfl rfl ?_
      refine q_iload F dX5_answer_53 rfl ?_
      refine q_if_eq F 62 dX5_answer_55 rfl (fun c55 => ?_) (fun c55 => ?_)
      · exact absurd c55 (by decide)
      refine q_iload_n F 3 dX5_answer_58 rfl rfl ?_
      refine q_goto F 63 dX5_answer_59 rfl ?_
      refine qp_X5_81 F hM.1.1 dX5_answer_63 ?_
      refine q_mF 29 hM hm (fun S63 hM hm => ?_)
      refine q_aload_n F 0 dX5_answer_66 rfl rfl ?_
      refine q_iload_n F 1 dX5_answer_67 rfl rfl ?_
      refine qp_X5_179 F hM.1.1 dX5_answer_68 ?_
      refine q_mF 30 hM hm (fun S68 hM hm => ?_)
      refine q_aload_n F 0 dX5_answer_71 rfl rfl ?_
      refine q_iload_n F 2 dX5_answer_72 rfl rfl ?_
      refine qp_X5_182 F hM.1.1 dX5_answer_73 ?_
      refine q_mF 31 hM hm (fun S73 hM hm => ?_)
      refine q_iload F dX5_answer_76 rfl ?_
      refine q_iconst F dX5_answer_78 hc_1 ?_
      refine q_icmp_eq F 88 dX5_answer_79 rfl (fun c79 => ?_) (fun c79 => ?_)
      · refine q_aload_n F 0 dX5_answer_88 rfl rfl ?_
        refine q_iload_n F 1 dX5_answer_89 rfl rfl ?_
        refine q_iload_n F 2 dX5_answer_90 rfl rfl ?_
        refine q_iload_n F 3 dX5_answer_91 rfl rfl ?_
        refine q_callV_gv F (c_X5_sees hM hn hn40 hsz) gX5_answer_X5_sees rfl hd_X5_sees ⟨Nat.le_of_ble_eq_true rfl, Nat.le_of_ble_eq_true rfl⟩ hM.1.1 rfl rfl rfl (Nat.le_of_ble_eq_true rfl) dX5_answer_92 ⟨Nat.le_of_ble_eq_true rfl, Nat.le_of_ble_eq_true rfl⟩ (fun S92 hp92 => ?_)
        obtain ⟨hM, hm92⟩ := hp92
        have hm := hm.trans hm92
        refine q_iload F dX5_answer_95 rfl ?_
        refine q_iconst F dX5_answer_97 hc_m1 ?_
        refine q_icmp_eq F 114 dX5_answer_98 rfl (fun c98 => ?_) (fun c98 => ?_)
        · refine q_iload F dX5_answer_114 rfl ?_
          refine q_iconst F dX5_answer_116 hc_5 ?_
          refine q_icmp_ne F 143 dX5_answer_117 rfl (fun c117 => ?_) (fun c117 => ?_)
          · refine q_iload F dX5_answer_143 rfl ?_
            exact (q_reti F hr rfl dX5_answer_145 (Nat.le_of_ble_eq_true rfl) (Nat.le_of_ble_eq_true rfl) ⟨_, rfl, rfl, by first | exact ansM_see (sc := va_up sc 0 0) hn (Or.inl c79) hM | exact ansM_see (sc := va_up sc 0 0) hn (Or.inr c85) hM | exact ansM_new (sc := va_up sc 0 0) c117 c124 hlt hM | exact ansM_no (sc := va_up sc 0 0) key hn c79 c85 (n5A c117) (wkA c28 c36) hM | exact ansM_no (sc := va_up sc 0 0) key hn c79 c85 (n5A c117) (wkB c42) hM | exact ansM_no (sc := va_up sc 0 0) (-1) hn c79 c85 (n5A c117) (wkC c42 c36) hM | exact ansM_no (sc := va_up sc 0 0) (-1) hn c79 c85 (n5A c117) (wkD c42 c28) hM | exact ansM_no (sc := va_up sc 0 0) key hn c79 c85 (n5B c124) (wkA c28 c36) hM | exact ansM_no (sc := va_up sc 0 0) key hn c79 c85 (n5B c124) (wkB c42) hM | exact ansM_no (sc := va_up sc 0 0) (-1) hn c79 c85 (n5B c124) (wkC c42 c36) hM | exact ansM_no (sc := va_up sc 0 0) (-1) hn c79 c85 (n5B c124) (wkD c42 c28) hM | exact ansM_no (sc := va_up sc 0 0) key hn c79 c85 (n5C c133) (wkA c28 c36) hM | exact ansM_no (sc := va_up sc 0 0) key hn c79 c85 (n5C c133) (wkB c42) hM | exact ansM_no (sc := va_up sc 0 0) (-1) hn c79 c85 (n5C c133) (wkC c42 c36) hM | exact ansM_no (sc := va_up sc 0 0) (-1) hn c79 c85 (n5C c133) (wkD c42 c28) hM | exact xI (by decide) c28 c42 | exact xI (by decide) c79 c42 | exact xI (by decide) c85 c42 | exact xI (by decide) c79 c28 | exact xI (by decide) c85 c28 | exact xI (by decide) c117 c42 | exact xI (by decide) c36 c124, hm⟩)
          exact absurd c117 (by first | (rw [c79]; decide) | (rw [c85]; decide))
        exact absurd c98 (by decide)
      refine q_iload F dX5_answer_82 rfl ?_
      refine q_iconst F dX5_answer_84 hc_2 ?_
      refine q_icmp_ne F 114 dX5_answer_85 rfl (fun c85 => ?_) (fun c85 => ?_)
      · refine q_iload F dX5_answer_114 rfl ?_
        refine q_iconst F dX5_answer_116 hc_5 ?_
        refine q_icmp_ne F 143 dX5_answer_117 rfl (fun c117 => ?_) (fun c117 => ?_)
        · refine q_iload F dX5_answer_143 rfl ?_
          exact (q_reti F hr rfl dX5_answer_145 (Nat.le_of_ble_eq_true rfl) (Nat.le_of_ble_eq_true rfl) ⟨_, rfl, rfl, by first | exact ansM_see (sc := va_up sc 0 0) hn (Or.inl c79) hM | exact ansM_see (sc := va_up sc 0 0) hn (Or.inr c85) hM | exact ansM_new (sc := va_up sc 0 0) c117 c124 hlt hM | exact ansM_no (sc := va_up sc 0 0) key hn c79 c85 (n5A c117) (wkA c28 c36) hM | exact ansM_no (sc := va_up sc 0 0) key hn c79 c85 (n5A c117) (wkB c42) hM | exact ansM_no (sc := va_up sc 0 0) (-1) hn c79 c85 (n5A c117) (wkC c42 c36) hM | exact ansM_no (sc := va_up sc 0 0) (-1) hn c79 c85 (n5A c117) (wkD c42 c28) hM | exact ansM_no (sc := va_up sc 0 0) key hn c79 c85 (n5B c124) (wkA c28 c36) hM | exact ansM_no (sc := va_up sc 0 0) key hn c79 c85 (n5B c124) (wkB c42) hM | exact ansM_no (sc := va_up sc 0 0) (-1) hn c79 c85 (n5B c124) (wkC c42 c36) hM | exact ansM_no (sc := va_up sc 0 0) (-1) hn c79 c85 (n5B c124) (wkD c42 c28) hM | exact ansM_no (sc := va_up sc 0 0) key hn c79 c85 (n5C c133) (wkA c28 c36) hM | exact ansM_no (sc := va_up sc 0 0) key hn c79 c85 (n5C c133) (wkB c42) hM | exact ansM_no (sc := va_up sc 0 0) (-1) hn c79 c85 (n5C c133) (wkC c42 c36) hM | exact ansM_no (sc := va_up sc 0 0) (-1) hn c79 c85 (n5C c133) (wkD c42 c28) hM | exact xI (by decide) c28 c42 | exact xI (by decide) c79 c42 | exact xI (by decide) c85 c42 | exact xI (by decide) c79 c28 | exact xI (by decide) c85 c28 | exact xI (by decide) c117 c42 | exact xI (by decide) c36 c124, hm⟩)
        refine q_aload_n F 0 dX5_answer_120 rfl rfl ?_
        refine qg_X5_7 F hM.1.1 dX5_answer_121 ?_
        refine q_mg 2 (sc 2) rfl hM rfl ?_
        refine q_if_ne F 143 dX5_answer_124 rfl (fun c124 => ?_) (fun c124 => ?_)
        · refine q_iload F dX5_answer_143 rfl ?_
          exact (q_reti F hr rfl dX5_answer_145 (Nat.le_of_ble_eq_true rfl) (Nat.le_of_ble_eq_true rfl) ⟨_, rfl, rfl, by first | exact ansM_see (sc := va_up sc 0 0) hn (Or.inl c79) hM | exact ansM_see (sc := va_up sc 0 0) hn (Or.inr c85) hM | exact ansM_new (sc := va_up sc 0 0) c117 c124 hlt hM | exact ansM_no (sc := va_up sc 0 0) key hn c79 c85 (n5A c117) (wkA c28 c36) hM | exact ansM_no (sc := va_up sc 0 0) key hn c79 c85 (n5A c117) (wkB c42) hM | exact ansM_no (sc := va_up sc 0 0) (-1) hn c79 c85 (n5A c117) (wkC c42 c36) hM | exact ansM_no (sc := va_up sc 0 0) (-1) hn c79 c85 (n5A c117) (wkD c42 c28) hM | exact ansM_no (sc := va_up sc 0 0) key hn c79 c85 (n5B c124) (wkA c28 c36) hM | exact ansM_no (sc := va_up sc 0 0) key hn c79 c85 (n5B c124) (wkB c42) hM | exact ansM_no (sc := va_up sc 0 0) (-1) hn c79 c85 (n5B c124) (wkC c42 c36) hM | exact ansM_no (sc := va_up sc 0 0) (-1) hn c79 c85 (n5B c124) (wkD c42 c28) hM | exact ansM_no (sc := va_up sc 0 0) key hn c79 c85 (n5C c133) (wkA c28 c36) hM | exact ansM_no (sc := va_up sc 0 0) key hn c79 c85 (n5C c133) (wkB c42) hM | exact ansM_no (sc := va_up sc 0 0) (-1) hn c79 c85 (n5C c133) (wkC c42 c36) hM | exact ansM_no (sc := va_up sc 0 0) (-1) hn c79 c85 (n5C c133) (wkD c42 c28) hM | exact xI (by decide) c28 c42 | exact xI (by decide) c79 c42 | exact xI (by decide) c85 c42 | exact xI (by decide) c79 c28 | exact xI (by decide) c85 c28 | exact xI (by decide) c117 c42 | exact xI (by decide) c36 c124, hm⟩)
        refine q_aload_n F 0 dX5_answer_127 rfl rfl ?_
        refine qg_X5_91 F hM.1.1 dX5_answer_128 ?_
        refine q_mg 4 (nI n) rfl hM hn ?_
        refine q_bipush (v := 40) F dX5_answer_131 (by decide) ?_
        refine q_icmp_ge F 143 dX5_answer_133 rfl (fun c133 => ?_) (fun c133 => ?_)
        · refine q_iload F dX5_answer_143 rfl ?_
          exact (q_reti F hr rfl dX5_answer_145 (Nat.le_of_ble_eq_true rfl) (Nat.le_of_ble_eq_true rfl) ⟨_, rfl, rfl, by first | exact ansM_see (sc := va_up sc 0 0) hn (Or.inl c79) hM | exact ansM_see (sc := va_up sc 0 0) hn (Or.inr c85) hM | exact ansM_new (sc := va_up sc 0 0) c117 c124 hlt hM | exact ansM_no (sc := va_up sc 0 0) key hn c79 c85 (n5A c117) (wkA c28 c36) hM | exact ansM_no (sc := va_up sc 0 0) key hn c79 c85 (n5A c117) (wkB c42) hM | exact ansM_no (sc := va_up sc 0 0) (-1) hn c79 c85 (n5A c117) (wkC c42 c36) hM | exact ansM_no (sc := va_up sc 0 0) (-1) hn c79 c85 (n5A c117) (wkD c42 c28) hM | exact ansM_no (sc := va_up sc 0 0) key hn c79 c85 (n5B c124) (wkA c28 c36) hM | exact ansM_no (sc := va_up sc 0 0) key hn c79 c85 (n5B c124) (wkB c42) hM | exact ansM_no (sc := va_up sc 0 0) (-1) hn c79 c85 (n5B c124) (wkC c42 c36) hM | exact ansM_no (sc := va_up sc 0 0) (-1) hn c79 c85 (n5B c124) (wkD c42 c28) hM | exact ansM_no (sc := va_up sc 0 0) key hn c79 c85 (n5C c133) (wkA c28 c36) hM | exact ansM_no (sc := va_up sc 0 0) key hn c79 c85 (n5C c133) (wkB c42) hM | exact ansM_no (sc := va_up sc 0 0) (-1) hn c79 c85 (n5C c133) (wkC c42 c36) hM | exact ansM_no (sc := va_up sc 0 0) (-1) hn c79 c85 (n5C c133) (wkD c42 c28) hM | exact xI (by decide) c28 c42 | exact xI (by decide) c79 c42 | exact xI (by decide) c85 c42 | exact xI (by decide) c79 c28 | exact xI (by decide) c85 c28 | exact xI (by decide) c117 c42 | exact xI (by decide) c36 c124, hm⟩)
        have hlt : n < 40 := y40 hn40 c133
        refine q_aload_n F 0 dX5_answer_136 rfl rfl ?_
        refine q_iload_n F 1 dX5_answer_137 rfl rfl ?_
        refine q_iload_n F 2 dX5_answer_138 rfl rfl ?_
        refine q_iload_n F 3 dX5_answer_139 rfl rfl ?_
        refine q_callV_gv F (c_X5_trusts hM hn hlt) gX5_answer_X5_trusts rfl hd_X5_trusts ⟨Nat.le_of_ble_eq_true rfl, Nat.le_of_ble_eq_true rfl⟩ hM.1.1 rfl rfl rfl (Nat.le_of_ble_eq_true rfl) dX5_answer_140 ⟨Nat.le_of_ble_eq_true rfl, Nat.le_of_ble_eq_true rfl⟩ (fun S140 hp140 => ?_)
        obtain ⟨hM, hm140⟩ := hp140
        have hm := hm.trans hm140
        refine q_iload F dX5_answer_143 rfl ?_
        exact (q_reti F hr rfl dX5_answer_145 (Nat.le_of_ble_eq_true rfl) (Nat.le_of_ble_eq_true rfl) ⟨_, rfl, rfl, by first | exact ansM_see (sc := va_up sc 0 0) hn (Or.inl c79) hM | exact ansM_see (sc := va_up sc 0 0) hn (Or.inr c85) hM | exact ansM_new (sc := va_up sc 0 0) c117 c124 hlt hM | exact ansM_no (sc := va_up sc 0 0) key hn c79 c85 (n5A c117) (wkA c28 c36) hM | exact ansM_no (sc := va_up sc 0 0) key hn c79 c85 (n5A c117) (wkB c42) hM | exact ansM_no (sc := va_up sc 0 0) (-1) hn c79 c85 (n5A c117) (wkC c42 c36) hM | exact ansM_no (sc := va_up sc 0 0) (-1) hn c79 c85 (n5A c117) (wkD c42 c28) hM | exact ansM_no (sc := va_up sc 0 0) key hn c79 c85 (n5B c124) (wkA c28 c36) hM | exact ansM_no (sc := va_up sc 0 0) key hn c79 c85 (n5B c124) (wkB c42) hM | exact ansM_no (sc := va_up sc 0 0) (-1) hn c79 c85 (n5B c124) (wkC c42 c36) hM | exact ansM_no (sc := va_up sc 0 0) (-1) hn c79 c85 (n5B c124) (wkD c42 c28) hM | exact ansM_no (sc := va_up sc 0 0) key hn c79 c85 (n5C c133) (wkA c28 c36) hM | exact ansM_no (sc := va_up sc 0 0) key hn c79 c85 (n5C c133) (wkB c42) hM | exact ansM_no (sc := va_up sc 0 0) (-1) hn c79 c85 (n5C c133) (wkC c42 c36) hM | exact ansM_no (sc := va_up sc 0 0) (-1) hn c79 c85 (n5C c133) (wkD c42 c28) hM | exact xI (by decide) c28 c42 | exact xI (by decide) c79 c42 | exact xI (by decide) c85 c42 | exact xI (by decide) c79 c28 | exact xI (by decide) c85 c28 | exact xI (by decide) c117 c42 | exact xI (by decide) c36 c124, hm⟩)
      refine q_aload_n F 0 dX5_answer_88 rfl rfl ?_
      refine q_iload_n F 1 dX5_answer_89 rfl rfl ?_
      refine q_iload_n F 2 dX5_answer_90 rfl rfl ?_
      refine q_iload_n F 3 dX5_answer_91 rfl rfl ?_
      refine q_callV_gv F (c_X5_sees hM hn hn40 hsz) gX5_answer_X5_sees rfl hd_X5_sees ⟨Nat.le_of_ble_eq_true rfl, Nat.le_of_ble_eq_true rfl⟩ hM.1.1 rfl rfl rfl (Nat.le_of_ble_eq_true rfl) dX5_answer_92 ⟨Nat.le_of_ble_eq_true rfl, Nat.le_of_ble_eq_true rfl⟩ (fun S92 hp92 => ?_)
      obtain ⟨hM, hm92⟩ := hp92
      have hm := hm.trans hm92
      refine q_iload F dX5_answer_95 rfl ?_
      refine q_iconst F dX5_answer_97 hc_m1 ?_
      refine q_icmp_eq F 114 dX5_answer_98 rfl (fun c98 => ?_) (fun c98 => ?_)
      · refine q_iload F dX5_answer_114 rfl ?_
        refine q_iconst F dX5_answer_116 hc_5 ?_
        refine q_icmp_ne F 143 dX5_answer_117 rfl (fun c117 => ?_) (fun c117 => ?_)
        · refine q_iload F dX5_answer_143 rfl ?_
          exact (q_reti F hr rfl dX5_answer_145 (Nat.le_of_ble_eq_true rfl) (Nat.le_of_ble_eq_true rfl) ⟨_, rfl, rfl, by first | exact ansM_see (sc := va_up sc 0 0) hn (Or.inl c79) hM | exact ansM_see (sc := va_up sc 0 0) hn (Or.inr c85) hM | exact ansM_new (sc := va_up sc 0 0) c117 c124 hlt hM | exact ansM_no (sc := va_up sc 0 0) key hn c79 c85 (n5A c117) (wkA c28 c36) hM | exact ansM_no (sc := va_up sc 0 0) key hn c79 c85 (n5A c117) (wkB c42) hM | exact ansM_no (sc := va_up sc 0 0) (-1) hn c79 c85 (n5A c117) (wkC c42 c36) hM | exact ansM_no (sc := va_up sc 0 0) (-1) hn c79 c85 (n5A c117) (wkD c42 c28) hM | exact ansM_no (sc := va_up sc 0 0) key hn c79 c85 (n5B c124) (wkA c28 c36) hM | exact ansM_no (sc := va_up sc 0 0) key hn c79 c85 (n5B c124) (wkB c42) hM | exact ansM_no (sc := va_up sc 0 0) (-1) hn c79 c85 (n5B c124) (wkC c42 c36) hM | exact ansM_no (sc := va_up sc 0 0) (-1) hn c79 c85 (n5B c124) (wkD c42 c28) hM | exact ansM_no (sc := va_up sc 0 0) key hn c79 c85 (n5C c133) (wkA c28 c36) hM | exact ansM_no (sc := va_up sc 0 0) key hn c79 c85 (n5C c133) (wkB c42) hM | exact ansM_no (sc := va_up sc 0 0) (-1) hn c79 c85 (n5C c133) (wkC c42 c36) hM | exact ansM_no (sc := va_up sc 0 0) (-1) hn c79 c85 (n5C c133) (wkD c42 c28) hM | exact xI (by decide) c28 c42 | exact xI (by decide) c79 c42 | exact xI (by decide) c85 c42 | exact xI (by decide) c79 c28 | exact xI (by decide) c85 c28 | exact xI (by decide) c117 c42 | exact xI (by decide) c36 c124, hm⟩)
        exact absurd c117 (by first | (rw [c79]; decide) | (rw [c85]; decide))
      exact absurd c98 (by decide)
    refine q_aload_n F 0 dX5_answer_31 rfl rfl ?_
    refine qg_X5_7 F hM.1.1 dX5_answer_32 ?_
    refine q_mg 2 (sc 2) rfl hM rfl ?_
    refine q_iconst F dX5_answer_35 hc_1 ?_
    refine q_icmp_eq F 45 dX5_answer_36 rfl (fun c36 => ?_) (fun c36 => ?_)
    · refine q_iconst F dX5_answer_45 hc_1 ?_
      refine q_goto F 50 dX5_answer_46 rfl ?_
      refine q_istore F dX5_answer_50 (by decide) rfl ?_
      refine q_aload_n F 0 dX5_answer_52 rfl rfl ?_
      refine q_iload F dX5_answer_53 rfl ?_
      refine q_if_eq F 62 dX5_answer_55 rfl (fun c55 => ?_) (fun c55 => ?_)
      · exact absurd c55 (by decide)
      refine q_iload_n F 3 dX5_answer_58 rfl rfl ?_
      refine q_goto F 63 dX5_answer_59 rfl ?_
      refine qp_X5_81 F hM.1.1 dX5_answer_63 ?_
      refine q_mF 29 hM hm (fun S63 hM hm => ?_)
      refine q_aload_n F 0 dX5_answer_66 rfl rfl ?_
      refine q_iload_n F 1 dX5_answer_67 rfl rfl ?_
      refine qp_X5_179 F hM.1.1 dX5_answer_68 ?_
      refine q_mF 30 hM hm (fun S68 hM hm => ?_)
      refine q_aload_n F 0 dX5_answer_71 rfl rfl ?_
      refine q_iload_n F 2 dX5_answer_72 rfl rfl ?_
      refine qp_X5_182 F hM.1.1 dX5_answer_73 ?_
      refine q_mF 31 hM hm (fun S73 hM hm => ?_)
      refine q_iload F dX5_answer_76 rfl ?_
      refine q_iconst F dX5_answer_78 hc_1 ?_
      refine q_icmp_eq F 88 dX5_answer_79 rfl (fun c79 => ?_) (fun c79 => ?_)
      · refine q_aload_n F 0 dX5_answer_88 rfl rfl ?_
        refine q_iload_n F 1 dX5_answer_89 rfl rfl ?_
        refine q_iload_n F 2 dX5_answer_90 rfl rfl ?_
        refine q_iload_n F 3 dX5_answer_91 rfl rfl ?_
        refine q_callV_gv F (c_X5_sees hM hn hn40 hsz) gX5_answer_X5_sees rfl hd_X5_sees ⟨Nat.le_of_ble_eq_true rfl, Nat.le_of_ble_eq_true rfl⟩ hM.1.1 rfl rfl rfl (Nat.le_of_ble_eq_true rfl) dX5_answer_92 ⟨Nat.le_of_ble_eq_true rfl, Nat.le_of_ble_eq_true rfl⟩ (fun S92 hp92 => ?_)
        obtain ⟨hM, hm92⟩ := hp92
        have hm := hm.trans hm92
        refine q_iload F dX5_answer_95 rfl ?_
        refine q_iconst F dX5_answer_97 hc_m1 ?_
        refine q_icmp_eq F 114 dX5_answer_98 rfl (fun c98 => ?_) (fun c98 => ?_)
        · refine q_iload F dX5_answer_114 rfl ?_
          refine q_iconst F dX5_answer_116 hc_5 ?_
          refine q_icmp_ne F 143 dX5_answer_117 rfl (fun c117 => ?_) (fun c117 => ?_)
          · refine q_iload F dX5_answer_143 rfl ?_
            exact (q_reti F hr rfl dX5_answer_145 (Nat.le_of_ble_eq_true rfl) (Nat.le_of_ble_eq_true rfl) ⟨_, rfl, rfl, by first | exact ansM_see (sc := va_up sc 0 0) hn (Or.inl c79) hM | exact ansM_see (sc := va_up sc 0 0) hn (Or.inr c85) hM | exact ansM_new (sc := va_up sc 0 0) c117 c124 hlt hM | exact ansM_no (sc := va_up sc 0 0) key hn c79 c85 (n5A c117) (wkA c28 c36) hM | exact ansM_no (sc := va_up sc 0 0) key hn c79 c85 (n5A c117) (wkB c42) hM | exact ansM_no (sc := va_up sc 0 0) (-1) hn c79 c85 (n5A c117) (wkC c42 c36) hM | exact ansM_no (sc := va_up sc 0 0) (-1) hn c79 c85 (n5A c117) (wkD c42 c28) hM | exact ansM_no (sc := va_up sc 0 0) key hn c79 c85 (n5B c124) (wkA c28 c36) hM | exact ansM_no (sc := va_up sc 0 0) key hn c79 c85 (n5B c124) (wkB c42) hM | exact ansM_no (sc := va_up sc 0 0) (-1) hn c79 c85 (n5B c124) (wkC c42 c36) hM | exact ansM_no (sc := va_up sc 0 0) (-1) hn c79 c85 (n5B c124) (wkD c42 c28) hM | exact ansM_no (sc := va_up sc 0 0) key hn c79 c85 (n5C c133) (wkA c28 c36) hM | exact ansM_no (sc := va_up sc 0 0) key hn c79 c85 (n5C c133) (wkB c42) hM | exact ansM_no (sc := va_up sc 0 0) (-1) hn c79 c85 (n5C c133) (wkC c42 c36) hM | exact ansM_no (sc := va_up sc 0 0) (-1) hn c79 c85 (n5C c133) (wkD c42 c28) hM | exact xI (by decide) c28 c42 | exact xI (by decide) c79 c42 | exact xI (by decide) c85 c42 | exact xI (by decide) c79 c28 | exact xI (by decide) c85 c28 | exact xI (by decide) c117 c42 | exact xI (by decide) c36 c124, hm⟩)
          exact absurd c117 (by first | (rw [c79]; decide) | (rw [c85]; decide))
        exact absurd c98 (by decide)
      refine q_iload F dX5_answer_82 rfl ?_
      refine q_iconst F dX5_answer_84 hc_2 ?_
      refine q_icmp_ne F 114 dX5_answer_85 rfl (fun c85 => ?_) (fun c85 => ?_)
      · refine q_iload F dX5_answer_114 rfl ?_
        refine q_iconst F dX5_answer_116 hc_5 ?_
        refine q_icmp_ne F 143 dX5_answer_117 rfl (fun c117 => ?_) (fun c117 => ?_)
        · refine q_iload F dX5_answer_143 rfl ?_
          exact (q_reti F hr rfl dX5_answer_145 (Nat.le_of_ble_eq_true rfl) (Nat.le_of_ble_eq_true rfl) ⟨_, rfl, rfl, by first | exact ansM_see (sc := va_up sc 0 0) hn (Or.inl c79) hM | exact ansM_see (sc := va_up sc 0 0) hn (Or.inr c85) hM | exact ansM_new (sc := va_up sc 0 0) c117 c124 hlt hM | exact ansM_no (sc := va_up sc 0 0) key hn c79 c85 (n5A c117) (wkA c28 c36) hM | exact ansM_no (sc := va_up sc 0 0) key hn c79 c85 (n5A c117) (wkB c42) hM | exact ansM_no (sc := va_up sc 0 0) (-1) hn c79 c85 (n5A c117) (wkC c42 c36) hM | exact ansM_no (sc := va_up sc 0 0) (-1) hn c79 c85 (n5A c117) (wkD c42 c28) hM | exact ansM_no (sc := va_up sc 0 0) key hn c79 c85 (n5B c124) (wkA c28 c36) hM | exact ansM_no (sc := va_up sc 0 0) key hn c79 c85 (n5B c124) (wkB c42) hM | exact ansM_no (sc := va_up sc 0 0) (-1) hn c79 c85 (n5B c124) (wkC c42 c36) hM | exact ansM_no (sc := va_up sc 0 0) (-1) hn c79 c85 (n5B c124) (wkD c42 c28) hM | exact ansM_no (sc := va_up sc 0 0) key hn c79 c85 (n5C c133) (wkA c28 c36) hM | exact ansM_no (sc := va_up sc 0 0) key hn c79 c85 (n5C c133) (wkB c42) hM | exact ansM_no (sc := va_up sc 0 0) (-1) hn c79 c85 (n5C c133) (wkC c42 c36) hM | exact ansM_no (sc := va_up sc 0 0) (-1) hn c79 c85 (n5C c133) (wkD c42 c28) hM | exact xI (by decide) c28 c42 | exact xI (by decide) c79 c42 | exact xI (by decide) c85 c42 | exact xI (by decide) c79 c28 | exact xI (by decide) c85 c28 | exact xI (by decide) c117 c42 | exact xI (by decide) c36 c124, hm⟩)
        refine q_aload_n F 0 dX5_answer_120 rfl rfl ?_
        refine qg_X5_7 F hM.1.1 dX5_answer_121 ?_
        refine q_mg 2 (sc 2) rfl hM rfl ?_
        refine q_if_ne F 143 dX5_answer_124 rfl (fun c124 => ?_) (fun c124 => ?_)
        · refine q_iload F dX5_answer_143 rfl ?_
          exact (q_reti F hr rfl dX5_answer_145 (Nat.le_of_ble_eq_true rfl) (Nat.le_of_ble_eq_true rfl) ⟨_, rfl, rfl, by first | exact ansM_see (sc := va_up sc 0 0) hn (Or.inl c79) hM | exact ansM_see (sc := va_up sc 0 0) hn (Or.inr c85) hM | exact ansM_new (sc := va_up sc 0 0) c117 c124 hlt hM | exact ansM_no (sc := va_up sc 0 0) key hn c79 c85 (n5A c117) (wkA c28 c36) hM | exact ansM_no (sc := va_up sc 0 0) key hn c79 c85 (n5A c117) (wkB c42) hM | exact ansM_no (sc := va_up sc 0 0) (-1) hn c79 c85 (n5A c117) (wkC c42 c36) hM | exact ansM_no (sc := va_up sc 0 0) (-1) hn c79 c85 (n5A c117) (wkD c42 c28) hM | exact ansM_no (sc := va_up sc 0 0) key hn c79 c85 (n5B c124) (wkA c28 c36) hM | exact ansM_no (sc := va_up sc 0 0) key hn c79 c85 (n5B c124) (wkB c42) hM | exact ansM_no (sc := va_up sc 0 0) (-1) hn c79 c85 (n5B c124) (wkC c42 c36) hM | exact ansM_no (sc := va_up sc 0 0) (-1) hn c79 c85 (n5B c124) (wkD c42 c28) hM | exact ansM_no (sc := va_up sc 0 0) key hn c79 c85 (n5C c133) (wkA c28 c36) hM | exact ansM_no (sc := va_up sc 0 0) key hn c79 c85 (n5C c133) (wkB c42) hM | exact ansM_no (sc := va_up sc 0 0) (-1) hn c79 c85 (n5C c133) (wkC c42 c36) hM | exact ansM_no (sc := va_up sc 0 0) (-1) hn c79 c85 (n5C c133) (wkD c42 c28) hM | exact xI (by decide) c28 c42 | exact xI (by decide) c79 c42 | exact xI (by decide) c85 c42 | exact xI (by decide) c79 c28 | exact xI (by decide) c85 c28 | exact xI (by decide) c117 c42 | exact xI (by decide) c36 c124, hm⟩)
        refine q_aload_n F 0 dX5_answer_127 rfl rfl ?_
        refine qg_X5_91 F hM.1.1 dX5_answer_128 ?_
        refine q_mg 4 (nI n) rfl hM hn ?_
        refine q_bipush (v := 40) F dX5_answer_131 (by decide) ?_
        refine q_icmp_ge F 143 dX5_answer_133 rfl (fun c133 => ?_) (fun c133 => ?_)
        · refine q_iload F dX5_answer_143 rfl ?_
          exact (q_reti F hr rfl dX5_answer_145 (Nat.le_of_ble_eq_true rfl) (Nat.le_of_ble_eq_true rfl) ⟨_, rfl, rfl, by first | exact ansM_see (sc := va_up sc 0 0) hn (Or.inl c79) hM | exact ansM_see (sc := va_up sc 0 0) hn (Or.inr c85) hM | exact ansM_new (sc := va_up sc 0 0) c117 c124 hlt hM | exact ansM_no (sc := va_up sc 0 0) key hn c79 c85 (n5A c117) (wkA c28 c36) hM | exact ansM_no (sc := va_up sc 0 0) key hn c79 c85 (n5A c117) (wkB c42) hM | exact ansM_no (sc := va_up sc 0 0) (-1) hn c79 c85 (n5A c117) (wkC c42 c36) hM | exact ansM_no (sc := va_up sc 0 0) (-1) hn c79 c85 (n5A c117) (wkD c42 c28) hM | exact ansM_no (sc := va_up sc 0 0) key hn c79 c85 (n5B c124) (wkA c28 c36) hM | exact ansM_no (sc := va_up sc 0 0) key hn c79 c85 (n5B c124) (wkB c42) hM | exact ansM_no (sc := va_up sc 0 0) (-1) hn c79 c85 (n5B c124) (wkC c42 c36) hM | exact ansM_no (sc := va_up sc 0 0) (-1) hn c79 c85 (n5B c124) (wkD c42 c28) hM | exact ansM_no (sc := va_up sc 0 0) key hn c79 c85 (n5C c133) (wkA c28 c36) hM | exact ansM_no (sc := va_up sc 0 0) key hn c79 c85 (n5C c133) (wkB c42) hM | exact ansM_no (sc := va_up sc 0 0) (-1) hn c79 c85 (n5C c133) (wkC c42 c36) hM | exact ansM_no (sc := va_up sc 0 0) (-1) hn c79 c85 (n5C c133) (wkD c42 c28) hM | exact xI (by decide) c28 c42 | exact xI (by decide) c79 c42 | exact xI (by decide) c85 c42 | exact xI (by decide) c79 c28 | exact xI (by decide) c85 c28 | exact xI (by decide) c117 c42 | exact xI (by decide) c36 c124, hm⟩)
        have hlt : n < 40 := y40 hn40 c133
        refine q_aload_n F 0 dX5_answer_136 rfl rfl ?_
        refine q_iload_n F 1 dX5_answer_137 rfl rfl ?_
        refine q_iload_n F 2 dX5_answer_138 rfl rfl ?_
        refine q_iload_n F 3 dX5_answer_139 rfl rfl ?_
        refine q_callV_gv F (c_X5_trusts hM hn hlt) gX5_answer_X5_trusts rfl hd_X5_trusts ⟨Nat.le_of_ble_eq_true rfl, Nat.le_of_ble_eq_true rfl⟩ hM.1.1 rfl rfl rfl (Nat.le_of_ble_eq_true rfl) dX5_answer_140 ⟨Nat.le_of_ble_eq_true rfl, Nat.le_of_ble_eq_true rfl⟩ (fun S140 hp140 => ?_)
        obtain ⟨hM, hm140⟩ := hp140
        have hm := hm.trans hm140
        refine q_iload F dX5_answer_143 rfl ?_
        exact (q_reti F hr rfl dX5_answer_145 (Nat.le_of_ble_eq_true rfl) (Nat.le_of_ble_eq_true rfl) ⟨_, rfl, rfl, by first | exact ansM_see (sc := va_up sc 0 0) hn (Or.inl c79) hM | exact ansM_see (sc := va_up sc 0 0) hn (Or.inr c85) hM | exact ansM_new (sc := va_up sc 0 0) c117 c124 hlt hM | exact ansM_no (sc := va_up sc 0 0) key hn c79 c85 (n5A c117) (wkA c28 c36) hM | exact ansM_no (sc := va_up sc 0 0) key hn c79 c85 (n5A c117) (wkB c42) hM | exact ansM_no (sc := va_up sc 0 0) (-1) hn c79 c85 (n5A c117) (wkC c42 c36) hM | exact ansM_no (sc := va_up sc 0 0) (-1) hn c79 c85 (n5A c117) (wkD c42 c28) hM | exact ansM_no (sc := va_up sc 0 0) key hn c79 c85 (n5B c124) (wkA c28 c36) hM | exact ansM_no (sc := va_up sc 0 0) key hn c79 c85 (n5B c124) (wkB c42) hM | exact ansM_no (sc := va_up sc 0 0) (-1) hn c79 c85 (n5B c124) (wkC c42 c36) hM | exact ansM_no (sc := va_up sc 0 0) (-1) hn c79 c85 (n5B c124) (wkD c42 c28) hM | exact ansM_no (sc := va_up sc 0 0) key hn c79 c85 (n5C c133) (wkA c28 c36) hM | exact ansM_no (sc := va_up sc 0 0) key hn c79 c85 (n5C c133) (wkB c42) hM | exact ansM_no (sc := va_up sc 0 0) (-1) hn c79 c85 (n5C c133) (wkC c42 c36) hM | exact ansM_no (sc := va_up sc 0 0) (-1) hn c79 c85 (n5C c133) (wkD c42 c28) hM | exact xI (by decide) c28 c42 | exact xI (by decide) c79 c42 | exact xI (by decide) c85 c42 | exact xI (by decide) c79 c28 | exact xI (by decide) c85 c28 | exact xI (by decide) c117 c42 | exact xI (by decide) c36 c124, hm⟩)
      refine q_aload_n F 0 dX5_answer_88 rfl rfl ?_
      refine q_iload_n F 1 dX5_answer_89 rfl rfl ?_
      refine q_iload_n F 2 dX5_answer_90 rfl rfl ?_
      refine q_iload_n F 3 dX5_answer_91 rfl rfl ?_
      refine q_callV_gv F (c_X5_sees hM hn hn40 hsz) gX5_answer_X5_sees rfl hd_X5_sees ⟨Nat.le_of_ble_eq_true rfl, Nat.le_of_ble_eq_true rfl⟩ hM.1.1 rfl rfl rfl (Nat.le_of_ble_eq_true rfl) dX5_answer_92 ⟨Nat.le_of_ble_eq_true rfl, Nat.le_of_ble_eq_true rfl⟩ (fun S92 hp92 => ?_)
      obtain ⟨hM, hm92⟩ := hp92
      have hm := hm.trans hm92
      refine q_iload F dX5_answer_95 rfl ?_
      refine q_iconst F dX5_answer_97 hc_m1 ?_
      refine q_icmp_eq F 114 dX5_answer_98 rfl (fun c98 => ?_) (fun c98 => ?_)
      · refine q_iload F dX5_answer_114 rfl ?_
        refine q_iconst F dX5_answer_116 hc_5 ?_
        refine q_icmp_ne F 143 dX5_answer_117 rfl (fun c117 => ?_) (fun c117 => ?_)
        · refine q_iload F dX5_answer_143 rfl ?_
          exact (q_reti F hr rfl dX5_answer_145 (Nat.le_of_ble_eq_true rfl) (Nat.le_of_ble_eq_true rfl) ⟨_, rfl, rfl, by first | exact ansM_see (sc := va_up sc 0 0) hn (Or.inl c79) hM | exact ansM_see (sc := va_up sc 0 0) hn (Or.inr c85) hM | exact ansM_new (sc := va_up sc 0 0) c117 c124 hlt hM | exact ansM_no (sc := va_up sc 0 0) key hn c79 c85 (n5A c117) (wkA c28 c36) hM | exact ansM_no (sc := va_up sc 0 0) key hn c79 c85 (n5A c117) (wkB c42) hM | exact ansM_no (sc := va_up sc 0 0) (-1) hn c79 c85 (n5A c117) (wkC c42 c36) hM | exact ansM_no (sc := va_up sc 0 0) (-1) hn c79 c85 (n5A c117) (wkD c42 c28) hM | exact ansM_no (sc := va_up sc 0 0) key hn c79 c85 (n5B c124) (wkA c28 c36) hM | exact ansM_no (sc := va_up sc 0 0) key hn c79 c85 (n5B c124) (wkB c42) hM | exact ansM_no (sc := va_up sc 0 0) (-1) hn c79 c85 (n5B c124) (wkC c42 c36) hM | exact ansM_no (sc := va_up sc 0 0) (-1) hn c79 c85 (n5B c124) (wkD c42 c28) hM | exact ansM_no (sc := va_up sc 0 0) key hn c79 c85 (n5C c133) (wkA c28 c36) hM | exact ansM_no (sc := va_up sc 0 0) key hn c79 c85 (n5C c133) (wkB c42) hM | exact ansM_no (sc := va_up sc 0 0) (-1) hn c79 c85 (n5C c133) (wkC c42 c36) hM | exact ansM_no (sc := va_up sc 0 0) (-1) hn c79 c85 (n5C c133) (wkD c42 c28) hM | exact xI (by decide) c28 c42 | exact xI (by decide) c79 c42 | exact xI (by decide) c85 c42 | exact xI (by decide) c79 c28 | exact xI (by decide) c85 c28 | exact xI (by decide) c117 c42 | exact xI (by decide) c36 c124, hm⟩)
        exact absurd c117 (by first | (rw [c79]; decide) | (rw [c85]; decide))
      exact absurd c98 (by decide)
    refine q_iload F dX5_answer_39 rfl ?_
    refine q_iconst F dX5_answer_41 hc_4 ?_
    refine q_icmp_ne F 49 dX5_answer_42 rfl (fun c42 => ?_) (fun c42 => ?_)
    · refine q_iconst F dX5_answer_49 hc_0 ?_
      refine q_istore F dX5_answer_50 (by decide) rfl ?_
      refine q_aload_n F 0 dX5_answer_52 rfl rfl ?_
      refine q_iload F dX5_answer_53 rfl ?_
      refine q_if_eq F 62 dX5_answer_55 rfl (fun c55 => ?_) (fun c55 => ?_)
      · refine q_iconst F dX5_answer_62 hc_m1 ?_
        refine qp_X5_81 F hM.1.1 dX5_answer_63 ?_
        refine q_mF 29 hM hm (fun S63 hM hm => ?_)
        refine q_aload_n F 0 dX5_answer_66 rfl rfl ?_
        refine q_iload_n F 1 dX5_answer_67 rfl rfl ?_
        refine qp_X5_179 F hM.1.1 dX5_answer_68 ?_
        refine q_mF 30 hM hm (fun S68 hM hm => ?_)
        refine q_aload_n F 0 dX5_answer_71 rfl rfl ?_
        refine q_iload_n F 2 dX5_answer_72 rfl rfl ?_
        refine qp_X5_182 F hM.1.1 dX5_answer_73 ?_
        refine q_mF 31 hM hm (fun S73 hM hm => ?_)
        refine q_iload F dX5_answer_76 rfl ?_
        refine q_iconst F dX5_answer_78 hc_1 ?_
        refine q_icmp_eq F 88 dX5_answer_79 rfl (fun c79 => ?_) (fun c79 => ?_)
        · refine q_aload_n F 0 dX5_answer_88 rfl rfl ?_
          refine q_iload_n F 1 dX5_answer_89 rfl rfl ?_
          refine q_iload_n F 2 dX5_answer_90 rfl rfl ?_
          refine q_iload_n F 3 dX5_answer_91 rfl rfl ?_
          refine q_callV_gv F (c_X5_sees hM hn hn40 hsz) gX5_answer_X5_sees rfl hd_X5_sees ⟨Nat.le_of_ble_eq_true rfl, Nat.le_of_ble_eq_true rfl⟩ hM.1.1 rfl rfl rfl (Nat.le_of_ble_eq_true rfl) dX5_answer_92 ⟨Nat.le_of_ble_eq_true rfl, Nat.le_of_ble_eq_true rfl⟩ (fun S92 hp92 => ?_)
          obtain ⟨hM, hm92⟩ := hp92
          have hm := hm.trans hm92
          refine q_iload F dX5_answer_95 rfl ?_
          refine q_iconst F dX5_answer_97 hc_m1 ?_
          refine q_icmp_eq F 114 dX5_answer_98 rfl (fun c98 => ?_) (fun c98 => ?_)
          · refine q_iload F dX5_answer_114 rfl ?_
            refine q_iconst F dX5_answer_116 hc_5 ?_
            refine q_icmp_ne F 143 dX5_answer_117 rfl (fun c117 => ?_) (fun c117 => ?_)
            · refine q_iload F dX5_answer_143 rfl ?_
              exact (q_reti F hr rfl dX5_answer_145 (Nat.le_of_ble_eq_true rfl) (Nat.le_of_ble_eq_true rfl) ⟨_, rfl, rfl, by first | exact ansM_see (sc := va_up sc 0 0) hn (Or.inl c79) hM | exact ansM_see (sc := va_up sc 0 0) hn (Or.inr c85) hM | exact ansM_new (sc := va_up sc 0 0) c117 c124 hlt hM | exact ansM_no (sc := va_up sc 0 0) key hn c79 c85 (n5A c117) (wkA c28 c36) hM | exact ansM_no (sc := va_up sc 0 0) key hn c79 c85 (n5A c117) (wkB c42) hM | exact ansM_no (sc := va_up sc 0 0) (-1) hn c79 c85 (n5A c117) (wkC c42 c36) hM | exact ansM_no (sc := va_up sc 0 0) (-1) hn c79 c85 (n5A c117) (wkD c42 c28) hM | exact ansM_no (sc := va_up sc 0 0) key hn c79 c85 (n5B c124) (wkA c28 c36) hM | exact ansM_no (sc := va_up sc 0 0) key hn c79 c85 (n5B c124) (wkB c42) hM | exact ansM_no (sc := va_up sc 0 0) (-1) hn c79 c85 (n5B c124) (wkC c42 c36) hM | exact ansM_no (sc := va_up sc 0 0) (-1) hn c79 c85 (n5B c124) (wkD c42 c28) hM | exact ansM_no (sc := va_up sc 0 0) key hn c79 c85 (n5C c133) (wkA c28 c36) hM | exact ansM_no (sc := va_up sc 0 0) key hn c79 c85 (n5C c133) (wkB c42) hM | exact ansM_no (sc := va_up sc 0 0) (-1) hn c79 c85 (n5C c133) (wkC c42 c36) hM | exact ansM_no (sc := va_up sc 0 0) (-1) hn c79 c85 (n5C c133) (wkD c42 c28) hM | exact xI (by decide) c28 c42 | exact xI (by decide) c79 c42 | exact xI (by decide) c85 c42 | exact xI (by decide) c79 c28 | exact xI (by decide) c85 c28 | exact xI (by decide) c117 c42 | exact xI (by decide) c36 c124, hm⟩)
            exact absurd c117 (by first | (rw [c79]; decide) | (rw [c85]; decide))
          exact absurd c98 (by decide)
        refine q_iload F dX5_answer_82 rfl ?_
        refine q_iconst F dX5_answer_84 hc_2 ?_
        refine q_icmp_ne F 114 dX5_answer_85 rfl (fun c85 => ?_) (fun c85 => ?_)
        · refine q_iload F dX5_answer_114 rfl ?_
          refine q_iconst F dX5_answer_116 hc_5 ?_
          refine q_icmp_ne F 143 dX5_answer_117 rfl (fun c117 => ?_) (fun c117 => ?_)
          · refine q_iload F dX5_answer_143 rfl ?_
            exact (q_reti F hr rfl dX5_answer_145 (Nat.le_of_ble_eq_true rfl) (Nat.le_of_ble_eq_true rfl) ⟨_, rfl, rfl, by first | exact ansM_see (sc := va_up sc 0 0) hn (Or.inl c79) hM | exact ansM_see (sc := va_up sc 0 0) hn (Or.inr c85) hM | exact ansM_new (sc := va_up sc 0 0) c117 c124 hlt hM | exact ansM_no (sc := va_up sc 0 0) key hn c79 c85 (n5A c117) (wkA c28 c36) hM | exact ansM_no (sc := va_up sc 0 0) key hn c79 c85 (n5A c117) (wkB c42) hM | exact ansM_no (sc := va_up sc 0 0) (-1) hn c79 c85 (n5A c117) (wkC c42 c36) hM | exact ansM_no (sc := va_up sc 0 0) (-1) hn c79 c85 (n5A c117) (wkD c42 c28) hM | exact ansM_no (sc := va_up sc 0 0) key hn c79 c85 (n5B c124) (wkA c28 c36) hM | exact ansM_no (sc := va_up sc 0 0) key hn c79 c85 (n5B c124) (wkB c42) hM | exact ansM_no (sc := va_up sc 0 0) (-1) hn c79 c85 (n5B c124) (wkC c42 c36) hM | exact ansM_no (sc := va_up sc 0 0) (-1) hn c79 c85 (n5B c124) (wkD c42 c28) hM | exact ansM_no (sc := va_up sc 0 0) key hn c79 c85 (n5C c133) (wkA c28 c36) hM | exact ansM_no (sc := va_up sc 0 0) key hn c79 c85 (n5C c133) (wkB c42) hM | exact ansM_no (sc := va_up sc 0 0) (-1) hn c79 c85 (n5C c133) (wkC c42 c36) hM | exact ansM_no (sc := va_up sc 0 0) (-1) hn c79 c85 (n5C c133) (wkD c42 c28) hM | exact xI (by decide) c28 c42 | exact xI (by decide) c79 c42 | exact xI (by decide) c85 c42 | exact xI (by decide) c79 c28 | exact xI (by decide) c85 c28 | exact xI (by decide) c117 c42 | exact xI (by decide) c36 c124, hm⟩)
          refine q_aload_n F 0 dX5_answer_120 rfl rfl ?_
          refine qg_X5_7 F hM.1.1 dX5_answer_121 ?_
          refine q_mg 2 (sc 2) rfl hM rfl ?_
          refine q_if_ne F 143 dX5_answer_124 rfl (fun c124 => ?_) (fun c124 => ?_)
          · refine q_iload F dX5_answer_143 rfl ?_
            exact (q_reti F hr rfl dX5_answer_145 (Nat.le_of_ble_eq_true rfl) (Nat.le_of_ble_eq_true rfl) ⟨_, rfl, rfl, by first | exact ansM_see (sc := va_up sc 0 0) hn (Or.inl c79) hM | exact ansM_see (sc := va_up sc 0 0) hn (Or.inr c85) hM | exact ansM_new (sc := va_up sc 0 0) c117 c124 hlt hM | exact ansM_no (sc := va_up sc 0 0) key hn c79 c85 (n5A c117) (wkA c28 c36) hM | exact ansM_no (sc := va_up sc 0 0) key hn c79 c85 (n5A c117) (wkB c42) hM | exact ansM_no (sc := va_up sc 0 0) (-1) hn c79 c85 (n5A c117) (wkC c42 c36) hM | exact ansM_no (sc := va_up sc 0 0) (-1) hn c79 c85 (n5A c117) (wkD c42 c28) hM | exact ansM_no (sc := va_up sc 0 0) key hn c79 c85 (n5B c124) (wkA c28 c36) hM | exact ansM_no (sc := va_up sc 0 0) key hn c79 c85 (n5B c124) (wkB c42) hM | exact ansM_no (sc := va_up sc 0 0) (-1) hn c79 c85 (n5B c124) (wkC c42 c36) hM | exact ansM_no (sc := va_up sc 0 0) (-1) hn c79 c85 (n5B c124) (wkD c42 c28) hM | exact ansM_no (sc := va_up sc 0 0) key hn c79 c85 (n5C c133) (wkA c28 c36) hM | exact ansM_no (sc := va_up sc 0 0) key hn c79 c85 (n5C c133) (wkB c42) hM | exact ansM_no (sc := va_up sc 0 0) (-1) hn c79 c85 (n5C c133) (wkC c42 c36) hM | exact ansM_no (sc := va_up sc 0 0) (-1) hn c79 c85 (n5C c133) (wkD c42 c28) hM | exact xI (by decide) c28 c42 | exact xI (by decide) c79 c42 | exact xI (by decide) c85 c42 | exact xI (by decide) c79 c28 | exact xI (by decide) c85 c28 | exact xI (by decide) c117 c42 | exact xI (by decide) c36 c124, hm⟩)
          refine q_aload_n F 0 dX5_answer_127 rfl rfl ?_
          refine qg_X5_91 F hM.1.1 dX5_answer_128 ?_
          refine q_mg 4 (nI n) rfl hM hn ?_
          refine q_bipush (v := 40) F dX5_answer_131 (by decide) ?_
          refine q_icmp_ge F 143 dX5_answer_133 rfl (fun c133 => ?_) (fun c133 => ?_)
          · refine q_iload F dX5_answer_143 rfl ?_
            exact (q_reti F hr rfl dX5_answer_145 (Nat.le_of_ble_eq_true rfl) (Nat.le_of_ble_eq_true rfl) ⟨_, rfl, rfl, by first | exact ansM_see (sc := va_up sc 0 0) hn (Or.inl c79) hM | exact ansM_see (sc := va_up sc 0 0) hn (Or.inr c85) hM | exact ansM_new (sc := va_up sc 0 0) c117 c124 hlt hM | exact ansM_no (sc := va_up sc 0 0) key hn c79 c85 (n5A c117) (wkA c28 c36) hM | exact ansM_no (sc := va_up sc 0 0) key hn c79 c85 (n5A c117) (wkB c42) hM | exact ansM_no (sc := va_up sc 0 0) (-1) hn c79 c85 (n5A c117) (wkC c42 c36) hM | exact ansM_no (sc := va_up sc 0 0) (-1) hn c79 c85 (n5A c117) (wkD c42 c28) hM | exact ansM_no (sc := va_up sc 0 0) key hn c79 c85 (n5B c124) (wkA c28 c36) hM | exact ansM_no (sc := va_up sc 0 0) key hn c79 c85 (n5B c124) (wkB c42) hM | exact ansM_no (sc := va_up sc 0 0) (-1) hn c79 c85 (n5B c124) (wkC c42 c36) hM | exact ansM_no (sc := va_up sc 0 0) (-1) hn c79 c85 (n5B c124) (wkD c42 c28) hM | exact ansM_no (sc := va_up sc 0 0) key hn c79 c85 (n5C c133) (wkA c28 c36) hM | exact ansM_no (sc := va_up sc 0 0) key hn c79 c85 (n5C c133) (wkB c42) hM | exact ansM_no (sc := va_up sc 0 0) (-1) hn c79 c85 (n5C c133) (wkC c42 c36) hM | exact ansM_no (sc := va_up sc 0 0) (-1) hn c79 c85 (n5C c133) (wkD c42 c28) hM | exact xI (by decide) c28 c42 | exact xI (by decide) c79 c42 | exact xI (by decide) c85 c42 | exact xI (by decide) c79 c28 | exact xI (by decide) c85 c28 | exact xI (by decide) c117 c42 | exact xI (by decide) c36 c124, hm⟩)
          have hlt : n < 40 := y40 hn40 c133
          refine q_aload_n F 0 dX5_answer_136 rfl rfl ?_
          refine q_iload_n F 1 dX5_answer_137 rfl rfl ?_
          refine q_iload_n F 2 dX5_answer_138 rfl rfl ?_
          refine q_iload_n F 3 dX5_answer_139 rfl rfl ?_
          refine q_callV_gv F (c_X5_trusts hM hn hlt) gX5_answer_X5_trusts rfl hd_X5_trusts ⟨Nat.le_of_ble_eq_true rfl, Nat.le_of_ble_eq_true rfl⟩ hM.1.1 rfl rfl rfl (Nat.le_of_ble_eq_true rfl) dX5_answer_140 ⟨Nat.le_of_ble_eq_true rfl, Nat.le_of_ble_eq_true rfl⟩ (fun S140 hp140 => ?_)
          obtain ⟨hM, hm140⟩ := hp140
          have hm := hm.trans hm140
          refine q_iload F dX5_answer_143 rfl ?_
          exact (q_reti F hr rfl dX5_answer_145 (Nat.le_of_ble_eq_true rfl) (Nat.le_of_ble_eq_true rfl) ⟨_, rfl, rfl, by first | exact ansM_see (sc := va_up sc 0 0) hn (Or.inl c79) hM | exact ansM_see (sc := va_up sc 0 0) hn (Or.inr c85) hM | exact ansM_new (sc := va_up sc 0 0) c117 c124 hlt hM | exact ansM_no (sc := va_up sc 0 0) key hn c79 c85 (n5A c117) (wkA c28 c36) hM | exact ansM_no (sc := va_up sc 0 0) key hn c79 c85 (n5A c117) (wkB c42) hM | exact ansM_no (sc := va_up sc 0 0) (-1) hn c79 c85 (n5A c117) (wkC c42 c36) hM | exact ansM_no (sc := va_up sc 0 0) (-1) hn c79 c85 (n5A c117) (wkD c42 c28) hM | exact ansM_no (sc := va_up sc 0 0) key hn c79 c85 (n5B c124) (wkA c28 c36) hM | exact ansM_no (sc := va_up sc 0 0) key hn c79 c85 (n5B c124) (wkB c42) hM | exact ansM_no (sc := va_up sc 0 0) (-1) hn c79 c85 (n5B c124) (wkC c42 c36) hM | exact ansM_no (sc := va_up sc 0 0) (-1) hn c79 c85 (n5B c124) (wkD c42 c28) hM | exact ansM_no (sc := va_up sc 0 0) key hn c79 c85 (n5C c133) (wkA c28 c36) hM | exact ansM_no (sc := va_up sc 0 0) key hn c79 c85 (n5C c133) (wkB c42) hM | exact ansM_no (sc := va_up sc 0 0) (-1) hn c79 c85 (n5C c133) (wkC c42 c36) hM | exact ansM_no (sc := va_up sc 0 0) (-1) hn c79 c85 (n5C c133) (wkD c42 c28) hM | exact xI (by decide) c28 c42 | exact xI (by decide) c79 c42 | exact xI (by decide) c85 c42 | exact xI (by decide) c79 c28 | exact xI (by decide) c85 c28 | exact xI (by decide) c117 c42 | exact xI (by decide) c36 c124, hm⟩)
        refine q_aload_n F 0 dX5_answer_88 rfl rfl ?_
        refine q_iload_n F 1 dX5_answer_89 rfl rfl ?_
        refine q_iload_n F 2 dX5_answer_90 rfl rfl ?_
        refine q_iload_n F 3 dX5_answer_91 rfl rfl ?_
        refine q_callV_gv F (c_X5_sees hM hn hn40 hsz) gX5_answer_X5_sees rfl hd_X5_sees ⟨Nat.le_of_ble_eq_true rfl, Nat.le_of_ble_eq_true rfl⟩ hM.1.1 rfl rfl rfl (Nat.le_of_ble_eq_true rfl) dX5_answer_92 ⟨Nat.le_of_ble_eq_true rfl, Nat.le_of_ble_eq_true rfl⟩ (fun S92 hp92 => ?_)
        obtain ⟨hM, hm92⟩ := hp92
        have hm := hm.trans hm92
        refine q_iload F dX5_answer_95 rfl ?_
        refine q_iconst F dX5_answer_97 hc_m1 ?_
        refine q_icmp_eq F 114 dX5_answer_98 rfl (fun c98 => ?_) (fun c98 => ?_)
        · refine q_iload F dX5_answer_114 rfl ?_
          refine q_iconst F dX5_answer_116 hc_5 ?_
          refine q_icmp_ne F 143 dX5_answer_117 rfl (fun c117 => ?_) (fun c117 => ?_)
          · refine q_iload F dX5_answer_143 rfl ?_
            exact (q_reti F hr rfl dX5_answer_145 (Nat.le_of_ble_eq_true rfl) (Nat.le_of_ble_eq_true rfl) ⟨_, rfl, rfl, by first | exact ansM_see (sc := va_up sc 0 0) hn (Or.inl c79) hM | exact ansM_see (sc := va_up sc 0 0) hn (Or.inr c85) hM | exact ansM_new (sc := va_up sc 0 0) c117 c124 hlt hM | exact ansM_no (sc := va_up sc 0 0) key hn c79 c85 (n5A c117) (wkA c28 c36) hM | exact ansM_no (sc := va_up sc 0 0) key hn c79 c85 (n5A c117) (wkB c42) hM | exact ansM_no (sc := va_up sc 0 0) (-1) hn c79 c85 (n5A c117) (wkC c42 c36) hM | exact ansM_no (sc := va_up sc 0 0) (-1) hn c79 c85 (n5A c117) (wkD c42 c28) hM | exact ansM_no (sc := va_up sc 0 0) key hn c79 c85 (n5B c124) (wkA c28 c36) hM | exact ansM_no (sc := va_up sc 0 0) key hn c79 c85 (n5B c124) (wkB c42) hM | exact ansM_no (sc := va_up sc 0 0) (-1) hn c79 c85 (n5B c124) (wkC c42 c36) hM | exact ansM_no (sc := va_up sc 0 0) (-1) hn c79 c85 (n5B c124) (wkD c42 c28) hM | exact ansM_no (sc := va_up sc 0 0) key hn c79 c85 (n5C c133) (wkA c28 c36) hM | exact ansM_no (sc := va_up sc 0 0) key hn c79 c85 (n5C c133) (wkB c42) hM | exact ansM_no (sc := va_up sc 0 0) (-1) hn c79 c85 (n5C c133) (wkC c42 c36) hM | exact ansM_no (sc := va_up sc 0 0) (-1) hn c79 c85 (n5C c133) (wkD c42 c28) hM | exact xI (by decide) c28 c42 | exact xI (by decide) c79 c42 | exact xI (by decide) c85 c42 | exact xI (by decide) c79 c28 | exact xI (by decide) c85 c28 | exact xI (by decide) c117 c42 | exact xI (by decide) c36 c124, hm⟩)
          exact absurd c117 (by first | (rw [c79]; decide) | (rw [c85]; decide))
        exact absurd c98 (by decide)
      exact absurd c55 (by decide)
    refine q_iconst F dX5_answer_45 hc_1 ?_
    refine q_goto F 50 dX5_answer_46 rfl ?_
    refine q_istore F dX5_answer_50 (by decide) rfl ?_
    refine q_aload_n F 0 dX5_answer_52 rfl rfl ?_
    refine q_iload F dX5_answer_53 rfl ?_
    refine q_if_eq F 62 dX5_answer_55 rfl (fun c55 => ?_) (fun c55 => ?_)
    · exact absurd c55 (by decide)
    refine q_iload_n F 3 dX5_answer_58 rfl rfl ?_
    refine q_goto F 63 dX5_answer_59 rfl ?_
    refine qp_X5_81 F hM.1.1 dX5_answer_63 ?_
    refine q_mF 29 hM hm (fun S63 hM hm => ?_)
    refine q_aload_n F 0 dX5_answer_66 rfl rfl ?_
    refine q_iload_n F 1 dX5_answer_67 rfl rfl ?_
    refine qp_X5_179 F hM.1.1 dX5_answer_68 ?_
    refine q_mF 30 hM hm (fun S68 hM hm => ?_)
    refine q_aload_n F 0 dX5_answer_71 rfl rfl ?_
    refine q_iload_n F 2 dX5_answer_72 rfl rfl ?_
    refine qp_X5_182 F hM.1.1 dX5_answer_73 ?_
    refine q_mF 31 hM hm (fun S73 hM hm => ?_)
    refine q_iload F dX5_answer_76 rfl ?_
    refine q_iconst F dX5_answer_78 hc_1 ?_
    refine q_icmp_eq F 88 dX5_answer_79 rfl (fun c79 => ?_) (fun c79 => ?_)
    · refine q_aload_n F 0 dX5_answer_88 rfl rfl ?_
      refine q_iload_n F 1 dX5_answer_89 rfl rfl ?_
      refine q_iload_n F 2 dX5_answer_90 rfl rfl ?_
      refine q_iload_n F 3 dX5_answer_91 rfl rfl ?_
      refine q_callV_gv F (c_X5_sees hM hn hn40 hsz) gX5_answer_X5_sees rfl hd_X5_sees ⟨Nat.le_of_ble_eq_true rfl, Nat.le_of_ble_eq_true rfl⟩ hM.1.1 rfl rfl rfl (Nat.le_of_ble_eq_true rfl) dX5_answer_92 ⟨Nat.le_of_ble_eq_true rfl, Nat.le_of_ble_eq_true rfl⟩ (fun S92 hp92 => ?_)
      obtain ⟨hM, hm92⟩ := hp92
      have hm := hm.trans hm92
      refine q_iload F dX5_answer_95 rfl ?_
      refine q_iconst F dX5_answer_97 hc_m1 ?_
      refine q_icmp_eq F 114 dX5_answer_98 rfl (fun c98 => ?_) (fun c98 => ?_)
      · refine q_iload F dX5_answer_114 rfl ?_
        refine q_iconst F dX5_answer_116 hc_5 ?_
        refine q_icmp_ne F 143 dX5_answer_117 rfl (fun c117 => ?_) (fun c117 => ?_)
        · refine q_iload F dX5_answer_143 rfl ?_
          exact (q_reti F hr rfl dX5_answer_145 (Nat.le_of_ble_eq_true rfl) (Nat.le_of_ble_eq_true rfl) ⟨_, rfl, rfl, by first | exact ansM_see (sc := va_up sc 0 0) hn (Or.inl c79) hM | exact ansM_see (sc := va_up sc 0 0) hn (Or.inr c85) hM | exact ansM_new (sc := va_up sc 0 0) c117 c124 hlt hM | exact ansM_no (sc := va_up sc 0 0) key hn c79 c85 (n5A c117) (wkA c28 c36) hM | exact ansM_no (sc := va_up sc 0 0) key hn c79 c85 (n5A c117) (wkB c42) hM | exact ansM_no (sc := va_up sc 0 0) (-1) hn c79 c85 (n5A c117) (wkC c42 c36) hM | exact ansM_no (sc := va_up sc 0 0) (-1) hn c79 c85 (n5A c117) (wkD c42 c28) hM | exact ansM_no (sc := va_up sc 0 0) key hn c79 c85 (n5B c124) (wkA c28 c36) hM | exact ansM_no (sc := va_up sc 0 0) key hn c79 c85 (n5B c124) (wkB c42) hM | exact ansM_no (sc := va_up sc 0 0) (-1) hn c79 c85 (n5B c124) (wkC c42 c36) hM | exact ansM_no (sc := va_up sc 0 0) (-1) hn c79 c85 (n5B c124) (wkD c42 c28) hM | exact ansM_no (sc := va_up sc 0 0) key hn c79 c85 (n5C c133) (wkA c28 c36) hM | exact ansM_no (sc := va_up sc 0 0) key hn c79 c85 (n5C c133) (wkB c42) hM | exact ansM_no (sc := va_up sc 0 0) (-1) hn c79 c85 (n5C c133) (wkC c42 c36) hM | exact ansM_no (sc := va_up sc 0 0) (-1) hn c79 c85 (n5C c133) (wkD c42 c28) hM | exact xI (by decide) c28 c42 | exact xI (by decide) c79 c42 | exact xI (by decide) c85 c42 | exact xI (by decide) c79 c28 | exact xI (by decide) c85 c28 | exact xI (by decide) c117 c42 | exact xI (by decide) c36 c124, hm⟩)
        exact absurd c117 (by first | (rw [c79]; decide) | (rw [c85]; decide))
      exact absurd c98 (by decide)
    refine q_iload F dX5_answer_82 rfl ?_
    refine q_iconst F dX5_answer_84 hc_2 ?_
    refine q_icmp_ne F 114 dX5_answer_85 rfl (fun c85 => ?_) (fun c85 => ?_)
    · refine q_iload F dX5_answer_114 rfl ?_
      refine q_iconst F dX5_answer_116 hc_5 ?_
      refine q_icmp_ne F 143 dX5_answer_117 rfl (fun c117 => ?_) (fun c117 => ?_)
      · refine q_iload F dX5_answer_143 rfl ?_
        exact (q_reti F hr rfl dX5_answer_145 (Nat.le_of_ble_eq_true rfl) (Nat.le_of_ble_eq_true rfl) ⟨_, rfl, rfl, by first | exact ansM_see (sc := va_up sc 0 0) hn (Or.inl c79) hM | exact ansM_see (sc := va_up sc 0 0) hn (Or.inr c85) hM | exact ansM_new (sc := va_up sc 0 0) c117 c124 hlt hM | exact ansM_no (sc := va_up sc 0 0) key hn c79 c85 (n5A c117) (wkA c28 c36) hM | exact ansM_no (sc := va_up sc 0 0) key hn c79 c85 (n5A c117) (wkB c42) hM | exact ansM_no (sc := va_up sc 0 0) (-1) hn c79 c85 (n5A c117) (wkC c42 c36) hM | exact ansM_no (sc := va_up sc 0 0) (-1) hn c79 c85 (n5A c117) (wkD c42 c28) hM | exact ansM_no (sc := va_up sc 0 0) key hn c79 c85 (n5B c124) (wkA c28 c36) hM | exact ansM_no (sc := va_up sc 0 0) key hn c79 c85 (n5B c124) (wkB c42) hM | exact ansM_no (sc := va_up sc 0 0) (-1) hn c79 c85 (n5B c124) (wkC c42 c36) hM | exact ansM_no (sc := va_up sc 0 0) (-1) hn c79 c85 (n5B c124) (wkD c42 c28) hM | exact ansM_no (sc := va_up sc 0 0) key hn c79 c85 (n5C c133) (wkA c28 c36) hM | exact ansM_no (sc := va_up sc 0 0) key hn c79 c85 (n5C c133) (wkB c42) hM | exact ansM_no (sc := va_up sc 0 0) (-1) hn c79 c85 (n5C c133) (wkC c42 c36) hM | exact ansM_no (sc := va_up sc 0 0) (-1) hn c79 c85 (n5C c133) (wkD c42 c28) hM | exact xI (by decide) c28 c42 | exact xI (by decide) c79 c42 | exact xI (by decide) c85 c42 | exact xI (by decide) c79 c28 | exact xI (by decide) c85 c28 | exact xI (by decide) c117 c42 | exact xI (by decide) c36 c124, hm⟩)
      refine q_aload_n F 0 dX5_answer_120 rfl rfl ?_
      refine qg_X5_7 F hM.1.1 dX5_answer_121 ?_
      refine q_mg 2 (sc 2) rfl hM rfl ?_
      refine q_if_ne F 143 dX5_answer_124 rfl (fun c124 => ?_) (fun c124 => ?_)
      · refine q_iload F dX5_answer_143 rfl ?_
        exact (q_reti F hr rfl dX5_answer_145 (Nat.le_of_ble_eq_true rfl) (Nat.le_of_ble_eq_true rfl) ⟨_, rfl, rfl, by first | exact ansM_see (sc := va_up sc 0 0) hn (Or.inl c79) hM | exact ansM_see (sc := va_up sc 0 0) hn (Or.inr c85) hM | exact ansM_new (sc := va_up sc 0 0) c117 c124 hlt hM | exact ansM_no (sc := va_up sc 0 0) key hn c79 c85 (n5A c117) (wkA c28 c36) hM | exact ansM_no (sc := va_up sc 0 0) key hn c79 c85 (n5A c117) (wkB c42) hM | exact ansM_no (sc := va_up sc 0 0) (-1) hn c79 c85 (n5A c117) (wkC c42 c36) hM | exact ansM_no (sc := va_up sc 0 0) (-1) hn c79 c85 (n5A c117) (wkD c42 c28) hM | exact ansM_no (sc := va_up sc 0 0) key hn c79 c85 (n5B c124) (wkA c28 c36) hM | exact ansM_no (sc := va_up sc 0 0) key hn c79 c85 (n5B c124) (wkB c42) hM | exact ansM_no (sc := va_up sc 0 0) (-1) hn c79 c85 (n5B c124) (wkC c42 c36) hM | exact ansM_no (sc := va_up sc 0 0) (-1) hn c79 c85 (n5B c124) (wkD c42 c28) hM | exact ansM_no (sc := va_up sc 0 0) key hn c79 c85 (n5C c133) (wkA c28 c36) hM | exact ansM_no (sc := va_up sc 0 0) key hn c79 c85 (n5C c133) (wkB c42) hM | exact ansM_no (sc := va_up sc 0 0) (-1) hn c79 c85 (n5C c133) (wkC c42 c36) hM | exact ansM_no (sc := va_up sc 0 0) (-1) hn c79 c85 (n5C c133) (wkD c42 c28) hM | exact xI (by decide) c28 c42 | exact xI (by decide) c79 c42 | exact xI (by decide) c85 c42 | exact xI (by decide) c79 c28 | exact xI (by decide) c85 c28 | exact xI (by decide) c117 c42 | exact xI (by decide) c36 c124, hm⟩)
      refine q_aload_n F 0 dX5_answer_127 rfl rfl ?_
      refine qg_X5_91 F hM.1.1 dX5_answer_128 ?_
      refine q_mg 4 (nI n) rfl hM hn ?_
      refine q_bipush (v := 40) F dX5_answer_131 (by decide) ?_
      refine q_icmp_ge F 143 dX5_answer_133 rfl (fun c133 => ?_) (fun c133 => ?_)
      · refine q_iload F dX5_answer_143 rfl ?_
        exact (q_reti F hr rfl dX5_answer_145 (Nat.le_of_ble_eq_true rfl) (Nat.le_of_ble_eq_true rfl) ⟨_, rfl, rfl, by first | exact ansM_see (sc := va_up sc 0 0) hn (Or.inl c79) hM | exact ansM_see (sc := va_up sc 0 0) hn (Or.inr c85) hM | exact ansM_new (sc := va_up sc 0 0) c117 c124 hlt hM | exact ansM_no (sc := va_up sc 0 0) key hn c79 c85 (n5A c117) (wkA c28 c36) hM | exact ansM_no (sc := va_up sc 0 0) key hn c79 c85 (n5A c117) (wkB c42) hM | exact ansM_no (sc := va_up sc 0 0) (-1) hn c79 c85 (n5A c117) (wkC c42 c36) hM | exact ansM_no (sc := va_up sc 0 0) (-1) hn c79 c85 (n5A c117) (wkD c42 c28) hM | exact ansM_no (sc := va_up sc 0 0) key hn c79 c85 (n5B c124) (wkA c28 c36) hM | exact ansM_no (sc := va_up sc 0 0) key hn c79 c85 (n5B c124) (wkB c42) hM | exact ansM_no (sc := va_up sc 0 0) (-1) hn c79 c85 (n5B c124) (wkC c42 c36) hM | exact ansM_no (sc := va_up sc 0 0) (-1) hn c79 c85 (n5B c124) (wkD c42 c28) hM | exact ansM_no (sc := va_up sc 0 0) key hn c79 c85 (n5C c133) (wkA c28 c36) hM | exact ansM_no (sc := va_up sc 0 0) key hn c79 c85 (n5C c133) (wkB c42) hM | exact ansM_no (sc := va_up sc 0 0) (-1) hn c79 c85 (n5C c133) (wkC c42 c36) hM | exact ansM_no (sc := va_up sc 0 0) (-1) hn c79 c85 (n5C c133) (wkD c42 c28) hM | exact xI (by decide) c28 c42 | exact xI (by decide) c79 c42 | exact xI (by decide) c85 c42 | exact xI (by decide) c79 c28 | exact xI (by decide) c85 c28 | exact xI (by decide) c117 c42 | exact xI (by decide) c36 c124, hm⟩)
      have hlt : n < 40 := y40 hn40 c133
      refine q_aload_n F 0 dX5_answer_136 rfl rfl ?_
      refine q_iload_n F 1 dX5_answer_137 rfl rfl ?_
      refine q_iload_n F 2 dX5_answer_138 rfl rfl ?_
      refine q_iload_n F 3 dX5_answer_139 rfl rfl ?_
      refine q_callV_gv F (c_X5_trusts hM hn hlt) gX5_answer_X5_trusts rfl hd_X5_trusts ⟨Nat.le_of_ble_eq_true rfl, Nat.le_of_ble_eq_true rfl⟩ hM.1.1 rfl rfl rfl (Nat.le_of_ble_eq_true rfl) dX5_answer_140 ⟨Nat.le_of_ble_eq_true rfl, Nat.le_of_ble_eq_true rfl⟩ (fun S140 hp140 => ?_)
      obtain ⟨hM, hm140⟩ := hp140
      have hm := hm.trans hm140
      refine q_iload F dX5_answer_143 rfl ?_
      exact (q_reti F hr rfl dX5_answer_145 (Nat.le_of_ble_eq_true rfl) (Nat.le_of_ble_eq_true rfl) ⟨_, rfl, rfl, by first | exact ansM_see (sc := va_up sc 0 0) hn (Or.inl c79) hM | exact ansM_see (sc := va_up sc 0 0) hn (Or.inr c85) hM | exact ansM_new (sc := va_up sc 0 0) c117 c124 hlt hM | exact ansM_no (sc := va_up sc 0 0) key hn c79 c85 (n5A c117) (wkA c28 c36) hM | exact ansM_no (sc := va_up sc 0 0) key hn c79 c85 (n5A c117) (wkB c42) hM | exact ansM_no (sc := va_up sc 0 0) (-1) hn c79 c85 (n5A c117) (wkC c42 c36) hM | exact ansM_no (sc := va_up sc 0 0) (-1) hn c79 c85 (n5A c117) (wkD c42 c28) hM | exact ansM_no (sc := va_up sc 0 0) key hn c79 c85 (n5B c124) (wkA c28 c36) hM | exact ansM_no (sc := va_up sc 0 0) key hn c79 c85 (n5B c124) (wkB c42) hM | exact ansM_no (sc := va_up sc 0 0) (-1) hn c79 c85 (n5B c124) (wkC c42 c36) hM | exact ansM_no (sc := va_up sc 0 0) (-1) hn c79 c85 (n5B c124) (wkD c42 c28) hM | exact ansM_no (sc := va_up sc 0 0) key hn c79 c85 (n5C c133) (wkA c28 c36) hM | exact ansM_no (sc := va_up sc 0 0) key hn c79 c85 (n5C c133) (wkB c42) hM | exact ansM_no (sc := va_up sc 0 0) (-1) hn c79 c85 (n5C c133) (wkC c42 c36) hM | exact ansM_no (sc := va_up sc 0 0) (-1) hn c79 c85 (n5C c133) (wkD c42 c28) hM | exact xI (by decide) c28 c42 | exact xI (by decide) c79 c42 | exact xI (by decide) c85 c42 | exact xI (by decide) c79 c28 | exact xI (by decide) c85 c28 | exact xI (by decide) c117 c42 | exact xI (by decide) c36 c124, hm⟩)
    refine q_aload_n F 0 dX5_answer_88 rfl rfl ?_
    refine q_iload_n F 1 dX5_answer_89 rfl rfl ?_
    refine q_iload_n F 2 dX5_answer_90 rfl rfl ?_
    refine q_iload_n F 3 dX5_answer_91 rfl rfl ?_
    refine q_callV_gv F (c_X5_sees hM hn hn40 hsz) gX5_answer_X5_sees rfl hd_X5_sees ⟨Nat.le_of_ble_eq_true rfl, Nat.le_of_ble_eq_true rfl⟩ hM.1.1 rfl rfl rfl (Nat.le_of_ble_eq_true rfl) dX5_answer_92 ⟨Nat.le_of_ble_eq_true rfl, Nat.le_of_ble_eq_true rfl⟩ (fun S92 hp92 => ?_)
    obtain ⟨hM, hm92⟩ := hp92
    have hm := hm.trans hm92
    refine q_iload F dX5_answer_95 rfl ?_
    refine q_iconst F dX5_answer_97 hc_m1 ?_
    refine q_icmp_eq F 114 dX5_answer_98 rfl (fun c98 => ?_) (fun c98 => ?_)
    · refine q_iload F dX5_answer_114 rfl ?_
      refine q_iconst F dX5_answer_116 hc_5 ?_
      refine q_icmp_ne F 143 dX5_answer_117 rfl (fun c117 => ?_) (fun c117 => ?_)
      · refine q_iload F dX5_answer_143 rfl ?_
        exact (q_reti F hr rfl dX5_answer_145 (Nat.le_of_ble_eq_true rfl) (Nat.le_of_ble_eq_true rfl) ⟨_, rfl, rfl, by first | exact ansM_see (sc := va_up sc 0 0) hn (Or.inl c79) hM | exact ansM_see (sc := va_up sc 0 0) hn (Or.inr c85) hM | exact ansM_new (sc := va_up sc 0 0) c117 c124 hlt hM | exact ansM_no (sc := va_up sc 0 0) key hn c79 c85 (n5A c117) (wkA c28 c36) hM | exact ansM_no (sc := va_up sc 0 0) key hn c79 c85 (n5A c117) (wkB c42) hM | exact ansM_no (sc := va_up sc 0 0) (-1) hn c79 c85 (n5A c117) (wkC c42 c36) hM | exact ansM_no (sc := va_up sc 0 0) (-1) hn c79 c85 (n5A c117) (wkD c42 c28) hM | exact ansM_no (sc := va_up sc 0 0) key hn c79 c85 (n5B c124) (wkA c28 c36) hM | exact ansM_no (sc := va_up sc 0 0) key hn c79 c85 (n5B c124) (wkB c42) hM | exact ansM_no (sc := va_up sc 0 0) (-1) hn c79 c85 (n5B c124) (wkC c42 c36) hM | exact ansM_no (sc := va_up sc 0 0) (-1) hn c79 c85 (n5B c124) (wkD c42 c28) hM | exact ansM_no (sc := va_up sc 0 0) key hn c79 c85 (n5C c133) (wkA c28 c36) hM | exact ansM_no (sc := va_up sc 0 0) key hn c79 c85 (n5C c133) (wkB c42) hM | exact ansM_no (sc := va_up sc 0 0) (-1) hn c79 c85 (n5C c133) (wkC c42 c36) hM | exact ansM_no (sc := va_up sc 0 0) (-1) hn c79 c85 (n5C c133) (wkD c42 c28) hM | exact xI (by decide) c28 c42 | exact xI (by decide) c79 c42 | exact xI (by decide) c85 c42 | exact xI (by decide) c79 c28 | exact xI (by decide) c85 c28 | exact xI (by decide) c117 c42 | exact xI (by decide) c36 c124, hm⟩)
      exact absurd c117 (by first | (rw [c79]; decide) | (rw [c85]; decide))
    exact absurd c98 (by decide)
  exact absurd c9 (by decide)

set_option maxHeartbeats 4000000 in
set_option maxRecDepth 100000 in
theorem c_X5_answer_c {l : Launch} {g : hG} {X : va_W} {S : hS} {md : Nat} {ar : Nat → Nat} {sc : Nat → Int32} {M : Nat → Nat → Int32} (hM : mS S md ar sc M) {n : Nat} (hn : sc 4 = nI n) (hn40 : n ≤ 40) (hsz : ∀ i, i < n → ∃ k, k ≤ 4 ∧ M 12 i = nI k) {ns : Nat} (hs : sc 25 = nI ns) (hs20 : ns ≤ 20) {nc : Nat} (hc : sc 17 = nI nc) (hc20 : nc ≤ 20) {name port key : Int32} (hB1 : (okNP name port && okK key) = true) {ci : Nat} (hci : ci < nc) : hMet l yX5_answer wsX5_answer rm_X5_answer g X S [.ref md, .int name, .int port, .int key, .int (nI ci)] (mI S md ar (jg (sc 1) M n ns name port key (some ci)) (scN (aW (va_up sc 0 0) (jg (sc 1) M n ns name port key (some ci)) name port key) (aAns (va_up sc 0 0) M n (jg (sc 1) M n ns name port key (some ci)) (M 18 ci) name port key).2) (aAns (va_up sc 0 0) M n (jg (sc 1) M n ns name port key (some ci)) (M 18 ci) name port key).1) := by
  refine h_start (maxL := 7) (ret := (some .int)) (by decide) rfl (Nat.le_of_ble_eq_true rfl) ?_
  intro p e s m args below meth c F hr hinit
  have hm := mdF.rf S
  refine q_aload_n F 0 dX5_answer_0 rfl rfl ?_
  refine q_iload_n F 1 dX5_answer_1 rfl rfl ?_
  refine q_iload_n F 2 dX5_answer_2 rfl rfl ?_
  refine q_iload_n F 3 dX5_answer_3 rfl rfl ?_
  refine q_iload F dX5_answer_4 rfl ?_
  refine q_callV_gi F (c_X5_isJudged_2 hM hc hc20 (okC_nI hci (by omega)) hB1) gX5_answer_X5_isJudged rfl hd_X5_isJudged ⟨Nat.le_of_ble_eq_true rfl, Nat.le_of_ble_eq_true rfl⟩ hM.1.1 rfl rfl rfl (Nat.le_of_ble_eq_true rfl) dX5_answer_6 ⟨Nat.le_of_ble_eq_true rfl, Nat.le_of_ble_eq_true rfl⟩ (fun r6 S6 hp6 => ?_)
  obtain ⟨rfl, hM, hm6⟩ := hp6
  have hm := hm.trans hm6
  refine q_if_ne F 14 dX5_answer_9 rfl (fun c9 => ?_) (fun c9 => ?_)
  · refine q_aload_n F 0 dX5_answer_14 rfl rfl ?_
    refine q_iload_n F 1 dX5_answer_15 rfl rfl ?_
    refine q_iload_n F 2 dX5_answer_16 rfl rfl ?_
    refine q_iload_n F 3 dX5_answer_17 rfl rfl ?_
    refine q_iload F dX5_answer_18 rfl ?_
    refine q_callV_i F (c_X5_judgement_c hM hn hn40 hsz hs hs20 (show ci < 20 by omega)) gX5_answer_X5_judgement rfl hd_X5_judgement ⟨Nat.le_of_ble_eq_true rfl, Nat.le_of_ble_eq_true rfl⟩ hM.1.1 rfl rfl rfl (Nat.le_of_ble_eq_true rfl) dX5_answer_20 ⟨Nat.le_of_ble_eq_true rfl, Nat.le_of_ble_eq_true rfl⟩ ?_
    refine q_top (v' := .int (jg (sc 1) M n ns name port key (some ci))) ?_ rfl
    refine q_istore F dX5_answer_23 (by decide) rfl ?_
    refine q_iload F dX5_answer_25 rfl ?_
    refine q_iconst F dX5_answer_27 hc_5 ?_
    refine q_icmp_ne F 39 dX5_answer_28 rfl (fun c28 => ?_) (fun c28 => ?_)
    · refine q_iload F dX5_answer_39 rfl ?_
      refine q_iconst F dX5_answer_41 hc_4 ?_
      refine q_icmp_ne F 49 dX5_answer_42 rfl (fun c42 => ?_) (fun c42 => ?_)
      · refine q_iconst F dX5_answer_49 hc_0 ?_
        refine q_istore F dX5_answer_50 (by decide) rfl ?_
        refine q_aload_n F 0 dX5_answer_52 rfl rfl ?_
        refine q_iload F dX5_answer_53 rfl ?_
        refine q_if_eq F 62 dX5_answer_55 rfl (fun c55 => ?_) (fun c55 => ?_)
        · refine q_iconst F dX5_answer_62 hc_m1 ?_
          refine qp_X5_81 F hM.1.1 dX5_answer_63 ?_
          refine q_mF 29 hM hm (fun S63 hM hm => ?_)
          refine q_aload_n F 0 dX5_answer_66 rfl rfl ?_
          refine q_iload_n F 1 dX5_answer_67 rfl rfl ?_
          refine qp_X5_179 F hM.1.1 dX5_answer_68 ?_
          refine q_mF 30 hM hm (fun S68 hM hm => ?_)
          refine q_aload_n F 0 dX5_answer_71 rfl rfl ?_
          refine q_iload_n F 2 dX5_answer_72 rfl rfl ?_
          refine qp_X5_182 F hM.1.1 dX5_answer_73 ?_
          refine q_mF 31 hM hm (fun S73 hM hm => ?_)
          refine q_iload F dX5_answer_76 rfl ?_
          refine q_iconst F dX5_answer_78 hc_1 ?_
          refine q_icmp_eq F 88 dX5_answer_79 rfl (fun c79 => ?_) (fun c79 => ?_)
          · refine q_aload_n F 0 dX5_answer_88 rfl rfl ?_
            refine q_iload_n F 1 dX5_answer_89 rfl rfl ?_
            refine q_iload_n F 2 dX5_answer_90 rfl rfl ?_
            refine q_iload_n F 3 dX5_answer_91 rfl rfl ?_
            refine q_callV_gv F (c_X5_sees hM hn hn40 hsz) gX5_answer_X5_sees rfl hd_X5_sees ⟨Nat.le_of_ble_eq_true rfl, Nat.le_of_ble_eq_true rfl⟩ hM.1.1 rfl rfl rfl (Nat.le_of_ble_eq_true rfl) dX5_answer_92 ⟨Nat.le_of_ble_eq_true rfl, Nat.le_of_ble_eq_true rfl⟩ (fun S92 hp92 => ?_)
            obtain ⟨hM, hm92⟩ := hp92
            have hm := hm.trans hm92
            refine q_iload F dX5_answer_95 rfl ?_
            refine q_iconst F dX5_answer_97 hc_m1 ?_
            refine q_icmp_eq F 114 dX5_answer_98 rfl (fun c98 => ?_) (fun c98 => ?_)
            · exact absurd c98 (nI_nm1 (by omega))
            refine q_aload_n F 0 dX5_answer_101 rfl rfl ?_
            refine q_iload_n F 1 dX5_answer_102 rfl rfl ?_
            refine q_iload_n F 2 dX5_answer_103 rfl rfl ?_
            refine q_aload_n F 0 dX5_answer_104 rfl rfl ?_
            refine qg_X5_51 F (hM.1.2.1 18 rfl).1 hM.1.1 dX5_answer_105 ?_
            refine q_iload F dX5_answer_108 rfl ?_
            refine q_iald F (hM.1.2.1 18 rfl).2.1 (hM.1.2.1 18 rfl).2.2 rfl (show ci < 20 by omega) (by decide) dX5_answer_110 ?_
            refine q_ma 18 (M 18 ci) rfl hM (congrFun (aSee_f (by decide) n) ci) ?_
            refine q_callV_gv F (c_X5_sees (M := aSee (seeB M (sc 1) key key name port) (sc 1) M n) hM hn hn40 (sz_see hsz)) gX5_answer_X5_sees rfl hd_X5_sees ⟨Nat.le_of_ble_eq_true rfl, Nat.le_of_ble_eq_true rfl⟩ hM.1.1 rfl rfl rfl (Nat.le_of_ble_eq_true rfl) dX5_answer_111 ⟨Nat.le_of_ble_eq_true rfl, Nat.le_of_ble_eq_true rfl⟩ (fun S111 hp111 => ?_)
            obtain ⟨hM, hm111⟩ := hp111
            have hm := hm.trans hm111
            refine q_iload F dX5_answer_114 rfl ?_
            refine q_iconst F dX5_answer_116 hc_5 ?_
            refine q_icmp_ne F 143 dX5_answer_117 rfl (fun c117 => ?_) (fun c117 => ?_)
            · refine q_iload F dX5_answer_143 rfl ?_
              exact (q_reti F hr rfl dX5_answer_145 (Nat.le_of_ble_eq_true rfl) (Nat.le_of_ble_eq_true rfl) ⟨_, rfl, rfl, by first | exact ansM_see2 (sc := va_up sc 0 0) hn (Or.inl c79) hM | exact ansM_see2 (sc := va_up sc 0 0) hn (Or.inr c85) hM | exact ansM_new (sc := va_up sc 0 0) c117 c124 hlt hM | exact ansM_no (sc := va_up sc 0 0) key hn c79 c85 (n5A c117) (wkA c28 c36) hM | exact ansM_no (sc := va_up sc 0 0) key hn c79 c85 (n5A c117) (wkB c42) hM | exact ansM_no (sc := va_up sc 0 0) (-1) hn c79 c85 (n5A c117) (wkC c42 c36) hM | exact ansM_no (sc := va_up sc 0 0) (-1) hn c79 c85 (n5A c117) (wkD c42 c28) hM | exact ansM_no (sc := va_up sc 0 0) key hn c79 c85 (n5B c124) (wkA c28 c36) hM | exact ansM_no (sc := va_up sc 0 0) key hn c79 c85 (n5B c124) (wkB c42) hM | exact ansM_no (sc := va_up sc 0 0) (-1) hn c79 c85 (n5B c124) (wkC c42 c36) hM | exact ansM_no (sc := va_up sc 0 0) (-1) hn c79 c85 (n5B c124) (wkD c42 c28) hM | exact ansM_no (sc := va_up sc 0 0) key hn c79 c85 (n5C c133) (wkA c28 c36) hM | exact ansM_no (sc := va_up sc 0 0) key hn c79 c85 (n5C c133) (wkB c42) hM | exact ansM_no (sc := va_up sc 0 0) (-1) hn c79 c85 (n5C c133) (wkC c42 c36) hM | exact ansM_no (sc := va_up sc 0 0) (-1) hn c79 c85 (n5C c133) (wkD c42 c28) hM | exact xI (by decide) c28 c42 | exact xI (by decide) c79 c42 | exact xI (by decide) c85 c42 | exact xI (by decide) c79 c28 | exact xI (by decide) c85 c28 | exact xI (by decide) c117 c42 | exact xI (by decide) c36 c124, hm⟩)
            exact absurd c117 (by first | (rw [c79]; decide) | (rw [c85]; decide))
          refine q_iload F dX5_answer_82 rfl ?_
          refine q_iconst F dX5_answer_84 hc_2 ?_
          refine q_icmp_ne F 114 dX5_answer_85 rfl (fun c85 => ?_) (fun c85 => ?_)
          · refine q_iload F dX5_answer_114 rfl ?_
            refine q_iconst F dX5_answer_116 hc_5 ?_
            refine q_icmp_ne F 143 dX5_answer_117 rfl (fun c117 => ?_) (fun c117 => ?_)
            · refine q_iload F dX5_answer_143 rfl ?_
              exact (q_reti F hr rfl dX5_answer_145 (Nat.le_of_ble_eq_true rfl) (Nat.le_of_ble_eq_true rfl) ⟨_, rfl, rfl, by first | exact ansM_see2 (sc := va_up sc 0 0) hn (Or.inl c79) hM | exact ansM_see2 (sc := va_up sc 0 0) hn (Or.inr c85) hM | exact ansM_new (sc := va_up sc 0 0) c117 c124 hlt hM | exact ansM_no (sc := va_up sc 0 0) key hn c79 c85 (n5A c117) (wkA c28 c36) hM | exact ansM_no (sc := va_up sc 0 0) key hn c79 c85 (n5A c117) (wkB c42) hM | exact ansM_no (sc := va_up sc 0 0) (-1) hn c79 c85 (n5A c117) (wkC c42 c36) hM | exact ansM_no (sc := va_up sc 0 0) (-1) hn c79 c85 (n5A c117) (wkD c42 c28) hM | exact ansM_no (sc := va_up sc 0 0) key hn c79 c85 (n5B c124) (wkA c28 c36) hM | exact ansM_no (sc := va_up sc 0 0) key hn c79 c85 (n5B c124) (wkB c42) hM | exact ansM_no (sc := va_up sc 0 0) (-1) hn c79 c85 (n5B c124) (wkC c42 c36) hM | exact ansM_no (sc := va_up sc 0 0) (-1) hn c79 c85 (n5B c124) (wkD c42 c28) hM | exact ansM_no (sc := va_up sc 0 0) key hn c79 c85 (n5C c133) (wkA c28 c36) hM | exact ansM_no (sc := va_up sc 0 0) key hn c79 c85 (n5C c133) (wkB c42) hM | exact ansM_no (sc := va_up sc 0 0) (-1) hn c79 c85 (n5C c133) (wkC c42 c36) hM | exact ansM_no (sc := va_up sc 0 0) (-1) hn c79 c85 (n5C c133) (wkD c42 c28) hM | exact xI (by decide) c28 c42 | exact xI (by decide) c79 c42 | exact xI (by decide) c85 c42 | exact xI (by decide) c79 c28 | exact xI (by decide) c85 c28 | exact xI (by decide) c117 c42 | exact xI (by decide) c36 c124, hm⟩)
            refine q_aload_n F 0 dX5_answer_120 rfl rfl ?_
            refine qg_X5_7 F hM.1.1 dX5_answer_121 ?_
            refine q_mg 2 (sc 2) rfl hM rfl ?_
            refine q_if_ne F 143 dX5_answer_124 rfl (fun c124 => ?_) (fun c124 => ?_)
            · refine q_iload F dX5_answer_143 rfl ?_
              exact (q_reti F hr rfl dX5_answer_145 (Nat.le_of_ble_eq_true rfl) (Nat.le_of_ble_eq_true rfl) ⟨_, rfl, rfl, by first | exact ansM_see2 (sc := va_up sc 0 0) hn (Or.inl c79) hM | exact ansM_see2 (sc := va_up sc 0 0) hn (Or.inr c85) hM | exact ansM_new (sc := va_up sc 0 0) c117 c124 hlt hM | exact ansM_no (sc := va_up sc 0 0) key hn c79 c85 (n5A c117) (wkA c28 c36) hM | exact ansM_no (sc := va_up sc 0 0) key hn c79 c85 (n5A c117) (wkB c42) hM | exact ansM_no (sc := va_up sc 0 0) (-1) hn c79 c85 (n5A c117) (wkC c42 c36) hM | exact ansM_no (sc := va_up sc 0 0) (-1) hn c79 c85 (n5A c117) (wkD c42 c28) hM | exact ansM_no (sc := va_up sc 0 0) key hn c79 c85 (n5B c124) (wkA c28 c36) hM | exact ansM_no (sc := va_up sc 0 0) key hn c79 c85 (n5B c124) (wkB c42) hM | exact ansM_no (sc := va_up sc 0 0) (-1) hn c79 c85 (n5B c124) (wkC c42 c36) hM | exact ansM_no (sc := va_up sc 0 0) (-1) hn c79 c85 (n5B c124) (wkD c42 c28) hM | exact ansM_no (sc := va_up sc 0 0) key hn c79 c85 (n5C c133) (wkA c28 c36) hM | exact ansM_no (sc := va_up sc 0 0) key hn c79 c85 (n5C c133) (wkB c42) hM | exact ansM_no (sc := va_up sc 0 0) (-1) hn c79 c85 (n5C c133) (wkC c42 c36) hM | exact ansM_no (sc := va_up sc 0 0) (-1) hn c79 c85 (n5C c133) (wkD c42 c28) hM | exact xI (by decide) c28 c42 | exact xI (by decide) c79 c42 | exact xI (by decide) c85 c42 | exact xI (by decide) c79 c28 | exact xI (by decide) c85 c28 | exact xI (by decide) c117 c42 | exact xI (by decide) c36 c124, hm⟩)
            refine q_aload_n F 0 dX5_answer_127 rfl rfl ?_
            refine qg_X5_91 F hM.1.1 dX5_answer_128 ?_
            refine q_mg 4 (nI n) rfl hM hn ?_
            refine q_bipush (v := 40) F dX5_answer_131 (by decide) ?_
            refine q_icmp_ge F 143 dX5_answer_133 rfl (fun c133 => ?_) (fun c133 => ?_)
            · refine q_iload F dX5_answer_143 rfl ?_
              exact (q_reti F hr rfl dX5_answer_145 (Nat.le_of_ble_eq_true rfl) (Nat.le_of_ble_eq_true rfl) ⟨_, rfl, rfl, by first | exact ansM_see2 (sc := va_up sc 0 0) hn (Or.inl c79) hM | exact ansM_see2 (sc := va_up sc 0 0) hn (Or.inr c85) hM | exact ansM_new (sc := va_up sc 0 0) c117 c124 hlt hM | exact ansM_no (sc := va_up sc 0 0) key hn c79 c85 (n5A c117) (wkA c28 c36) hM | exact ansM_no (sc := va_up sc 0 0) key hn c79 c85 (n5A c117) (wkB c42) hM | exact ansM_no (sc := va_up sc 0 0) (-1) hn c79 c85 (n5A c117) (wkC c42 c36) hM | exact ansM_no (sc := va_up sc 0 0) (-1) hn c79 c85 (n5A c117) (wkD c42 c28) hM | exact ansM_no (sc := va_up sc 0 0) key hn c79 c85 (n5B c124) (wkA c28 c36) hM | exact ansM_no (sc := va_up sc 0 0) key hn c79 c85 (n5B c124) (wkB c42) hM | exact ansM_no (sc := va_up sc 0 0) (-1) hn c79 c85 (n5B c124) (wkC c42 c36) hM | exact ansM_no (sc := va_up sc 0 0) (-1) hn c79 c85 (n5B c124) (wkD c42 c28) hM | exact ansM_no (sc := va_up sc 0 0) key hn c79 c85 (n5C c133) (wkA c28 c36) hM | exact ansM_no (sc := va_up sc 0 0) key hn c79 c85 (n5C c133) (wkB c42) hM | exact ansM_no (sc := va_up sc 0 0) (-1) hn c79 c85 (n5C c133) (wkC c42 c36) hM | exact ansM_no (sc := va_up sc 0 0) (-1) hn c79 c85 (n5C c133) (wkD c42 c28) hM | exact xI (by decide) c28 c42 | exact xI (by decide) c79 c42 | exact xI (by decide) c85 c42 | exact xI (by decide) c79 c28 | exact xI (by decide) c85 c28 | exact xI (by decide) c117 c42 | exact xI (by decide) c36 c124, hm⟩)
            have hlt : n < 40 := y40 hn40 c133
            refine q_aload_n F 0 dX5_answer_136 rfl rfl ?_
            refine q_iload_n F 1 dX5_answer_137 rfl rfl ?_
            refine q_iload_n F 2 dX5_answer_138 rfl rfl ?_
            refine q_iload_n F 3 dX5_answer_139 rfl rfl ?_
            refine q_callV_gv F (c_X5_trusts hM hn hlt) gX5_answer_X5_trusts rfl hd_X5_trusts ⟨Nat.le_of_ble_eq_true rfl, Nat.le_of_ble_eq_true rfl⟩ hM.1.1 rfl rfl rfl (Nat.le_of_ble_eq_true rfl) dX5_answer_140 ⟨Nat.le_of_ble_eq_true rfl, Nat.le_of_ble_eq_true rfl⟩ (fun S140 hp140 => ?_)
            obtain ⟨hM, hm140⟩ := hp140
            have hm := hm.trans hm140
            refine q_iload F dX5_answer_143 rfl ?_
            exact (q_reti F hr rfl dX5_answer_145 (Nat.le_of_ble_eq_true rfl) (Nat.le_of_ble_eq_true rfl) ⟨_, rfl, rfl, by first | exact ansM_see2 (sc := va_up sc 0 0) hn (Or.inl c79) hM | exact ansM_see2 (sc := va_up sc 0 0) hn (Or.inr c85) hM | exact ansM_new (sc := va_up sc 0 0) c117 c124 hlt hM | exact ansM_no (sc := va_up sc 0 0) key hn c79 c85 (n5A c117) (wkA c28 c36) hM | exact ansM_no (sc := va_up sc 0 0) key hn c79 c85 (n5A c117) (wkB c42) hM | exact ansM_no (sc := va_up sc 0 0) (-1) hn c79 c85 (n5A c117) (wkC c42 c36) hM | exact ansM_no (sc := va_up sc 0 0) (-1) hn c79 c85 (n5A c117) (wkD c42 c28) hM | exact ansM_no (sc := va_up sc 0 0) key hn c79 c85 (n5B c124) (wkA c28 c36) hM | exact ansM_no (sc := va_up sc 0 0) key hn c79 c85 (n5B c124) (wkB c42) hM | exact ansM_no (sc := va_up sc 0 0) (-1) hn c79 c85 (n5B c124) (wkC c42 c36) hM | exact ansM_no (sc := va_up sc 0 0) (-1) hn c79 c85 (n5B c124) (wkD c42 c28) hM | exact ansM_no (sc := va_up sc 0 0) key hn c79 c85 (n5C c133) (wkA c28 c36) hM | exact ansM_no (sc := va_up sc 0 0) key hn c79 c85 (n5C c133) (wkB c42) hM | exact ansM_no (sc := va_up sc 0 0) (-1) hn c79 c85 (n5C c133) (wkC c42 c36) hM | exact ansM_no (sc := va_up sc 0 0) (-1) hn c79 c85 (n5C c133) (wkD c42 c28) hM | exact xI (by decide) c28 c42 | exact xI (by decide) c79 c42 | exact xI (by decide) c85 c42 | exact xI (by decide) c79 c28 | exact xI (by decide) c85 c28 | exact xI (by decide) c117 c42 | exact xI (by decide) c36 c124, hm⟩)
          refine q_aload_n F 0 dX5_answer_88 rfl rfl ?_
          refine q_iload_n F 1 dX5_answer_89 rfl rfl ?_
          refine q_iload_n F 2 dX5_answer_90 rfl rfl ?_
          refine q_iload_n F 3 dX5_answer_91 rfl rfl ?_
          refine q_callV_gv F (c_X5_sees hM hn hn40 hsz) gX5_answer_X5_sees rfl hd_X5_sees ⟨Nat.le_of_ble_eq_true rfl, Nat.le_of_ble_eq_true rfl⟩ hM.1.1 rfl rfl rfl (Nat.le_of_ble_eq_true rfl) dX5_answer_92 ⟨Nat.le_of_ble_eq_true rfl, Nat.le_of_ble_eq_true rfl⟩ (fun S92 hp92 => ?_)
          obtain ⟨hM, hm92⟩ := hp92
          have hm := hm.trans hm92
          refine q_iload F dX5_answer_95 rfl ?_
          refine q_iconst F dX5_answer_97 hc_m1 ?_
          refine q_icmp_eq F 114 dX5_answer_98 rfl (fun c98 => ?_) (fun c98 => ?_)
          · exact absurd c98 (nI_nm1 (by omega))
          refine q_aload_n F 0 dX5_answer_101 rfl rfl ?_
          refine q_iload_n F 1 dX5_answer_102 rfl rfl ?_
          refine q_iload_n F 2 dX5_answer_103 rfl rfl ?_
          refine q_aload_n F 0 dX5_answer_104 rfl rfl ?_
          refine qg_X5_51 F (hM.1.2.1 18 rfl).1 hM.1.1 dX5_answer_105 ?_
          refine q_iload F dX5_answer_108 rfl ?_
          refine q_iald F (hM.1.2.1 18 rfl).2.1 (hM.1.2.1 18 rfl).2.2 rfl (show ci < 20 by omega) (by decide) dX5_answer_110 ?_
          refine q_ma 18 (M 18 ci) rfl hM (congrFun (aSee_f (by decide) n) ci) ?_
          refine q_callV_gv F (c_X5_sees (M := aSee (seeB M (sc 1) key key name port) (sc 1) M n) hM hn hn40 (sz_see hsz)) gX5_answer_X5_sees rfl hd_X5_sees ⟨Nat.le_of_ble_eq_true rfl, Nat.le_of_ble_eq_true rfl⟩ hM.1.1 rfl rfl rfl (Nat.le_of_ble_eq_true rfl) dX5_answer_111 ⟨Nat.le_of_ble_eq_true rfl, Nat.le_of_ble_eq_true rfl⟩ (fun S111 hp111 => ?_)
          obtain ⟨hM, hm111⟩ := hp111
          have hm := hm.trans hm111
          refine q_iload F dX5_answer_114 rfl ?_
          refine q_iconst F dX5_answer_116 hc_5 ?_
          refine q_icmp_ne F 143 dX5_answer_117 rfl (fun c117 => ?_) (fun c117 => ?_)
          · refine q_iload F dX5_answer_143 rfl ?_
            exact (q_reti F hr rfl dX5_answer_145 (Nat.le_of_ble_eq_true rfl) (Nat.le_of_ble_eq_true rfl) ⟨_, rfl, rfl, by first | exact ansM_see2 (sc := va_up sc 0 0) hn (Or.inl c79) hM | exact ansM_see2 (sc := va_up sc 0 0) hn (Or.inr c85) hM | exact ansM_new (sc := va_up sc 0 0) c117 c124 hlt hM | exact ansM_no (sc := va_up sc 0 0) key hn c79 c85 (n5A c117) (wkA c28 c36) hM | exact ansM_no (sc := va_up sc 0 0) key hn c79 c85 (n5A c117) (wkB c42) hM | exact ansM_no (sc := va_up sc 0 0) (-1) hn c79 c85 (n5A c117) (wkC c42 c36) hM | exact ansM_no (sc := va_up sc 0 0) (-1) hn c79 c85 (n5A c117) (wkD c42 c28) hM | exact ansM_no (sc := va_up sc 0 0) key hn c79 c85 (n5B c124) (wkA c28 c36) hM | exact ansM_no (sc := va_up sc 0 0) key hn c79 c85 (n5B c124) (wkB c42) hM | exact ansM_no (sc := va_up sc 0 0) (-1) hn c79 c85 (n5B c124) (wkC c42 c36) hM | exact ansM_no (sc := va_up sc 0 0) (-1) hn c79 c85 (n5B c124) (wkD c42 c28) hM | exact ansM_no (sc := va_up sc 0 0) key hn c79 c85 (n5C c133) (wkA c28 c36) hM | exact ansM_no (sc := va_up sc 0 0) key hn c79 c85 (n5C c133) (wkB c42) hM | exact ansM_no (sc := va_up sc 0 0) (-1) hn c79 c85 (n5C c133) (wkC c42 c36) hM | exact ansM_no (sc := va_up sc 0 0) (-1) hn c79 c85 (n5C c133) (wkD c42 c28) hM | exact xI (by decide) c28 c42 | exact xI (by decide) c79 c42 | exact xI (by decide) c85 c42 | exact xI (by decide) c79 c28 | exact xI (by decide) c85 c28 | exact xI (by decide) c117 c42 | exact xI (by decide) c36 c124, hm⟩)
          exact absurd c117 (by first | (rw [c79]; decide) | (rw [c85]; decide))
        exact absurd c55 (by decide)
      refine q_iconst F dX5_answer_45 hc_1 ?_
      refine q_goto F 50 dX5_answer_46 rfl ?_
      refine q_istore F dX5_answer_50 (by decide) rfl ?_
      refine q_aload_n F 0 dX5_answer_52 rfl rfl ?_
      refine q_iload F dX5_answer_53 rfl ?_
      refine q_if_eq F 62 dX5_answer_55 rfl (fun c55 => ?_) (fun c55 => ?_)
      · exact absurd c55 (by decide)
      refine q_iload_n F 3 dX5_answer_58 rfl rfl ?_
      refine q_goto F 63 dX5_answer_59 rfl ?_
      refine qp_X5_81 F hM.1.1 dX5_answer_63 ?_
      refine q_mF 29 hM hm (fun S63 hM hm => ?_)
      refine q_aload_n F 0 dX5_answer_66 rfl rfl ?_
      refine q_iload_n F 1 dX5_answer_67 rfl rfl ?_
      refine qp_X5_179 F hM.1.1 dX5_answer_68 ?_
      refine q_mF 30 hM hm (fun S68 hM hm => ?_)
      refine q_aload_n F 0 dX5_answer_71 rfl rfl ?_
      refine q_iload_n F 2 dX5_answer_72 rfl rfl ?_
      refine qp_X5_182 F hM.1.1 dX5_answer_73 ?_
      refine q_mF 31 hM hm (fun S73 hM hm => ?_)
      refine q_iload F dX5_answer_76 rfl ?_
      refine q_iconst F dX5_answer_78 hc_1 ?_
      refine q_icmp_eq F 88 dX5_answer_79 rfl (fun c79 => ?_) (fun c79 => ?_)
      · refine q_aload_n F 0 dX5_answer_88 rfl rfl ?_
        refine q_iload_n F 1 dX5_answer_89 rfl rfl ?_
        refine q_iload_n F 2 dX5_answer_90 rfl rfl ?_
        refine q_iload_n F 3 dX5_answer_91 rfl rfl ?_
        refine q_callV_gv F (c_X5_sees hM hn hn40 hsz) gX5_answer_X5_sees rfl hd_X5_sees ⟨Nat.le_of_ble_eq_true rfl, Nat.le_of_ble_eq_true rfl⟩ hM.1.1 rfl rfl rfl (Nat.le_of_ble_eq_true rfl) dX5_answer_92 ⟨Nat.le_of_ble_eq_true rfl, Nat.le_of_ble_eq_true rfl⟩ (fun S92 hp92 => ?_)
        obtain ⟨hM, hm92⟩ := hp92
        have hm := hm.trans hm92
        refine q_iload F dX5_answer_95 rfl ?_
        refine q_iconst F dX5_answer_97 hc_m1 ?_
        refine q_icmp_eq F 114 dX5_answer_98 rfl (fun c98 => ?_) (fun c98 => ?_)
        · exact absurd c98 (nI_nm1 (by omega))
        refine q_aload_n F 0 dX5_answer_101 rfl rfl ?_
        refine q_iload_n F 1 dX5_answer_102 rfl rfl ?_
        refine q_iload_n F 2 dX5_answer_103 rfl rfl ?_
        refine q_aload_n F 0 dX5_answer_104 rfl rfl ?_
        refine qg_X5_51 F (hM.1.2.1 18 rfl).1 hM.1.1 dX5_answer_105 ?_
        refine q_iload F dX5_answer_108 rfl ?_
        refine q_iald F (hM.1.2.1 18 rfl).2.1 (hM.1.2.1 18 rfl).2.2 rfl (show ci < 20 by omega) (by decide) dX5_answer_110 ?_
        refine q_ma 18 (M 18 ci) rfl hM (congrFun (aSee_f (by decide) n) ci) ?_
        refine q_callV_gv F (c_X5_sees (M := aSee (seeB M (sc 1) key key name port) (sc 1) M n) hM hn hn40 (sz_see hsz)) gX5_answer_X5_sees rfl hd_X5_sees ⟨Nat.le_of_ble_eq_true rfl, Nat.le_of_ble_eq_true rfl⟩ hM.1.1 rfl rfl rfl (Nat.le_of_ble_eq_true rfl) dX5_answer_111 ⟨Nat.le_of_ble_eq_true rfl, Nat.le_of_ble_eq_true rfl⟩ (fun S111 hp111 => ?_)
        obtain ⟨hM, hm111⟩ := hp111
        have hm := hm.trans hm111
        refine q_iload F dX5_answer_114 rfl ?_
        refine q_iconst F dX5_answer_116 hc_5 ?_
        refine q_icmp_ne F 143 dX5_answer_117 rfl (fun c117 => ?_) (fun c117 => ?_)
        · refine q_iload F dX5_answer_143 rfl ?_
          exact (q_reti F hr rfl dX5_answer_145 (Nat.le_of_ble_eq_true rfl) (Nat.le_of_ble_eq_true rfl) ⟨_, rfl, rfl, by first | exact ansM_see2 (sc := va_up sc 0 0) hn (Or.inl c79) hM | exact ansM_see2 (sc := va_up sc 0 0) hn (Or.inr c85) hM | exact ansM_new (sc := va_up sc 0 0) c117 c124 hlt hM | exact ansM_no (sc := va_up sc 0 0) key hn c79 c85 (n5A c117) (wkA c28 c36) hM | exact ansM_no (sc := va_up sc 0 0) key hn c79 c85 (n5A c117) (wkB c42) hM | exact ansM_no (sc := va_up sc 0 0) (-1) hn c79 c85 (n5A c117) (wkC c42 c36) hM | exact ansM_no (sc := va_up sc 0 0) (-1) hn c79 c85 (n5A c117) (wkD c42 c28) hM | exact ansM_no (sc := va_up sc 0 0) key hn c79 c85 (n5B c124) (wkA c28 c36) hM | exact ansM_no (sc := va_up sc 0 0) key hn c79 c85 (n5B c124) (wkB c42) hM | exact ansM_no (sc := va_up sc 0 0) (-1) hn c79 c85 (n5B c124) (wkC c42 c36) hM | exact ansM_no (sc := va_up sc 0 0) (-1) hn c79 c85 (n5B c124) (wkD c42 c28) hM | exact ansM_no (sc := va_up sc 0 0) key hn c79 c85 (n5C c133) (wkA c28 c36) hM | exact ansM_no (sc := va_up sc 0 0) key hn c79 c85 (n5C c133) (wkB c42) hM | exact ansM_no (sc := va_up sc 0 0) (-1) hn c79 c85 (n5C c133) (wkC c42 c36) hM | exact ansM_no (sc := va_up sc 0 0) (-1) hn c79 c85 (n5C c133) (wkD c42 c28) hM | exact xI (by decide) c28 c42 | exact xI (by decide) c79 c42 | exact xI (by decide) c85 c42 | exact xI (by decide) c79 c28 | exact xI (by decide) c85 c28 | exact xI (by decide) c117 c42 | exact xI (by decide) c36 c124, hm⟩)
        exact absurd c117 (by first | (rw [c79]; decide) | (rw [c85]; decide))
      refine q_iload F dX5_answer_82 rfl ?_
      refine q_iconst F dX5_answer_84 hc_2 ?_
      refine q_icmp_ne F 114 dX5_answer_85 rfl (fun c85 => ?_) (fun c85 => ?_)
      · refine q_iload F dX5_answer_114 rfl ?_
        refine q_iconst F dX5_answer_116 hc_5 ?_
        refine q_icmp_ne F 143 dX5_answer_117 rfl (fun c117 => ?_) (fun c117 => ?_)
        · refine q_iload F dX5_answer_143 rfl ?_
          exact (q_reti F hr rfl dX5_answer_145 (Nat.le_of_ble_eq_true rfl) (Nat.le_of_ble_eq_true rfl) ⟨_, rfl, rfl, by first | exact ansM_see2 (sc := va_up sc 0 0) hn (Or.inl c79) hM | exact ansM_see2 (sc := va_up sc 0 0) hn (Or.inr c85) hM | exact ansM_new (sc := va_up sc 0 0) c117 c124 hlt hM | exact ansM_no (sc := va_up sc 0 0) key hn c79 c85 (n5A c117) (wkA c28 c36) hM | exact ansM_no (sc := va_up sc 0 0) key hn c79 c85 (n5A c117) (wkB c42) hM | exact ansM_no (sc := va_up sc 0 0) (-1) hn c79 c85 (n5A c117) (wkC c42 c36) hM | exact ansM_no (sc := va_up sc 0 0) (-1) hn c79 c85 (n5A c117) (wkD c42 c28) hM | exact ansM_no (sc := va_up sc 0 0) key hn c79 c85 (n5B c124) (wkA c28 c36) hM | exact ansM_no (sc := va_up sc 0 0) key hn c79 c85 (n5B c124) (wkB c42) hM | exact ansM_no (sc := va_up sc 0 0) (-1) hn c79 c85 (n5B c124) (wkC c42 c36) hM | exact ansM_no (sc := va_up sc 0 0) (-1) hn c79 c85 (n5B c124) (wkD c42 c28) hM | exact ansM_no (sc := va_up sc 0 0) key hn c79 c85 (n5C c133) (wkA c28 c36) hM | exact ansM_no (sc := va_up sc 0 0) key hn c79 c85 (n5C c133) (wkB c42) hM | exact ansM_no (sc := va_up sc 0 0) (-1) hn c79 c85 (n5C c133) (wkC c42 c36) hM | exact ansM_no (sc := va_up sc 0 0) (-1) hn c79 c85 (n5C c133) (wkD c42 c28) hM | exact xI (by decide) c28 c42 | exact xI (by decide) c79 c42 | exact xI (by decide) c85 c42 | exact xI (by decide) c79 c28 | exact xI (by decide) c85 c28 | exact xI (by decide) c117 c42 | exact xI (by decide) c36 c124, hm⟩)
        refine q_aload_n F 0 dX5_answer_120 rfl rfl ?_
        refine qg_X5_7 F hM.1.1 dX5_answer_121 ?_
        refine q_mg 2 (sc 2) rfl hM rfl ?_
        refine q_if_ne F 143 dX5_answer_124 rfl (fun c124 => ?_) (fun c124 => ?_)
        · refine q_iload F dX5_answer_143 rfl ?_
          exact (q_reti F hr rfl dX5_answer_145 (Nat.le_of_ble_eq_true rfl) (Nat.le_of_ble_eq_true rfl) ⟨_, rfl, rfl, by first | exact ansM_see2 (sc := va_up sc 0 0) hn (Or.inl c79) hM | exact ansM_see2 (sc := va_up sc 0 0) hn (Or.inr c85) hM | exact ansM_new (sc := va_up sc 0 0) c117 c124 hlt hM | exact ansM_no (sc := va_up sc 0 0) key hn c79 c85 (n5A c117) (wkA c28 c36) hM | exact ansM_no (sc := va_up sc 0 0) key hn c79 c85 (n5A c117) (wkB c42) hM | exact ansM_no (sc := va_up sc 0 0) (-1) hn c79 c85 (n5A c117) (wkC c42 c36) hM | exact ansM_no (sc := va_up sc 0 0) (-1) hn c79 c85 (n5A c117) (wkD c42 c28) hM | exact ansM_no (sc := va_up sc 0 0) key hn c79 c85 (n5B c124) (wkA c28 c36) hM | exact ansM_no (sc := va_up sc 0 0) key hn c79 c85 (n5B c124) (wkB c42) hM | exact ansM_no (sc := va_up sc 0 0) (-1) hn c79 c85 (n5B c124) (wkC c42 c36) hM | exact ansM_no (sc := va_up sc 0 0) (-1) hn c79 c85 (n5B c124) (wkD c42 c28) hM | exact ansM_no (sc := va_up sc 0 0) key hn c79 c85 (n5C c133) (wkA c28 c36) hM | exact ansM_no (sc := va_up sc 0 0) key hn c79 c85 (n5C c133) (wkB c42) hM | exact ansM_no (sc := va_up sc 0 0) (-1) hn c79 c85 (n5C c133) (wkC c42 c36) hM | exact ansM_no (sc := va_up sc 0 0) (-1) hn c79 c85 (n5C c133) (wkD c42 c28) hM | exact xI (by decide) c28 c42 | exact xI (by decide) c79 c42 | exact xI (by decide) c85 c42 | exact xI (by decide) c79 c28 | exact xI (by decide) c85 c28 | exact xI (by decide) c117 c42 | exact xI (by decide) c36 c124, hm⟩)
        refine q_aload_n F 0 dX5_answer_127 rfl rfl ?_
        refine qg_X5_91 F hM.1.1 dX5_answer_128 ?_
        refine q_mg 4 (nI n) rfl hM hn ?_
        refine q_bipush (v := 40) F dX5_answer_131 (by decide) ?_
        refine q_icmp_ge F 143 dX5_answer_133 rfl (fun c133 => ?_) (fun c133 => ?_)
        · refine q_iload F dX5_answer_143 rfl ?_
          exact (q_reti F hr rfl dX5_answer_145 (Nat.le_of_ble_eq_true rfl) (Nat.le_of_ble_eq_true rfl) ⟨_, rfl, rfl, by first | exact ansM_see2 (sc := va_up sc 0 0) hn (Or.inl c79) hM | exact ansM_see2 (sc := va_up sc 0 0) hn (Or.inr c85) hM | exact ansM_new (sc := va_up sc 0 0) c117 c124 hlt hM | exact ansM_no (sc := va_up sc 0 0) key hn c79 c85 (n5A c117) (wkA c28 c36) hM | exact ansM_no (sc := va_up sc 0 0) key hn c79 c85 (n5A c117) (wkB c42) hM | exact ansM_no (sc := va_up sc 0 0) (-1) hn c79 c85 (n5A c117) (wkC c42 c36) hM | exact ansM_no (sc := va_up sc 0 0) (-1) hn c79 c85 (n5A c117) (wkD c42 c28) hM | exact ansM_no (sc := va_up sc 0 0) key hn c79 c85 (n5B c124) (wkA c28 c36) hM | exact ansM_no (sc := va_up sc 0 0) key hn c79 c85 (n5B c124) (wkB c42) hM | exact ansM_no (sc := va_up sc 0 0) (-1) hn c79 c85 (n5B c124) (wkC c42 c36) hM | exact ansM_no (sc := va_up sc 0 0) (-1) hn c79 c85 (n5B c124) (wkD c42 c28) hM | exact ansM_no (sc := va_up sc 0 0) key hn c79 c85 (n5C c133) (wkA c28 c36) hM | exact ansM_no (sc := va_up sc 0 0) key hn c79 c85 (n5C c133) (wkB c42) hM | exact ansM_no (sc := va_up sc 0 0) (-1) hn c79 c85 (n5C c133) (wkC c42 c36) hM | exact ansM_no (sc := va_up sc 0 0) (-1) hn c79 c85 (n5C c133) (wkD c42 c28) hM | exact xI (by decide) c28 c42 | exact xI (by decide) c79 c42 | exact xI (by decide) c85 c42 | exact xI (by decide) c79 c28 | exact xI (by decide) c85 c28 | exact xI (by decide) c117 c42 | exact xI (by decide) c36 c124, hm⟩)
        have hlt : n < 40 := y40 hn40 c133
        refine q_aload_n F 0 dX5_answer_136 rfl rfl ?_
        refine q_iload_n F 1 dX5_answer_137 rfl rfl ?_
        refine q_iload_n F 2 dX5_answer_138 rfl rfl ?_
        refine q_iload_n F 3 dX5_answer_139 rfl rfl ?_
        refine q_callV_gv F (c_X5_trusts hM hn hlt) gX5_answer_X5_trusts rfl hd_X5_trusts ⟨Nat.le_of_ble_eq_true rfl, Nat.le_of_ble_eq_true rfl⟩ hM.1.1 rfl rfl rfl (Nat.le_of_ble_eq_true rfl) dX5_answer_140 ⟨Nat.le_of_ble_eq_true rfl, Nat.le_of_ble_eq_true rfl⟩ (fun S140 hp140 => ?_)
        obtain ⟨hM, hm140⟩ := hp140
        have hm := hm.trans hm140
        refine q_iload F dX5_answer_143 rfl ?_
        exact (q_reti F hr rfl dX5_answer_145 (Nat.le_of_ble_eq_true rfl) (Nat.le_of_ble_eq_true rfl) ⟨_, rfl, rfl, by first | exact ansM_see2 (sc := va_up sc 0 0) hn (Or.inl c79) hM | exact ansM_see2 (sc := va_up sc 0 0) hn (Or.inr c85) hM | exact ansM_new (sc := va_up sc 0 0) c117 c124 hlt hM | exact ansM_no (sc := va_up sc 0 0) key hn c79 c85 (n5A c117) (wkA c28 c36) hM | exact ansM_no (sc := va_up sc 0 0) key hn c79 c85 (n5A c117) (wkB c42) hM | exact ansM_no (sc := va_up sc 0 0) (-1) hn c79 c85 (n5A c117) (wkC c42 c36) hM | exact ansM_no (sc := va_up sc 0 0) (-1) hn c79 c85 (n5A c117) (wkD c42 c28) hM | exact ansM_no (sc := va_up sc 0 0) key hn c79 c85 (n5B c124) (wkA c28 c36) hM | exact ansM_no (sc := va_up sc 0 0) key hn c79 c85 (n5B c124) (wkB c42) hM | exact ansM_no (sc := va_up sc 0 0) (-1) hn c79 c85 (n5B c124) (wkC c42 c36) hM | exact ansM_no (sc := va_up sc 0 0) (-1) hn c79 c85 (n5B c124) (wkD c42 c28) hM | exact ansM_no (sc := va_up sc 0 0) key hn c79 c85 (n5C c133) (wkA c28 c36) hM | exact ansM_no (sc := va_up sc 0 0) key hn c79 c85 (n5C c133) (wkB c42) hM | exact ansM_no (sc := va_up sc 0 0) (-1) hn c79 c85 (n5C c133) (wkC c42 c36) hM | exact ansM_no (sc := va_up sc 0 0) (-1) hn c79 c85 (n5C c133) (wkD c42 c28) hM | exact xI (by decide) c28 c42 | exact xI (by decide) c79 c42 | exact xI (by decide) c85 c42 | exact xI (by decide) c79 c28 | exact xI (by decide) c85 c28 | exact xI (by decide) c117 c42 | exact xI (by decide) c36 c124, hm⟩)
      refine q_aload_n F 0 dX5_answer_88 rfl rfl ?_
      refine q_iload_n F 1 dX5_answer_89 rfl rfl ?_
      refine q_iload_n F 2 dX5_answer_90 rfl rfl ?_
      refine q_iload_n F 3 dX5_answer_91 rfl rfl ?_
      refine q_callV_gv F (c_X5_sees hM hn hn40 hsz) gX5_answer_X5_sees rfl hd_X5_sees ⟨Nat.le_of_ble_eq_true rfl, Nat.le_of_ble_eq_true rfl⟩ hM.1.1 rfl rfl rfl (Nat.le_of_ble_eq_true rfl) dX5_answer_92 ⟨Nat.le_of_ble_eq_true rfl, Nat.le_of_ble_eq_true rfl⟩ (fun S92 hp92 => ?_)
      obtain ⟨hM, hm92⟩ := hp92
      have hm := hm.trans hm92
      refine q_iload F dX5_answer_95 rfl ?_
      refine q_iconst F dX5_answer_97 hc_m1 ?_
      refine q_icmp_eq F 114 dX5_answer_98 rfl (fun c98 => ?_) (fun c98 => ?_)
      · exact absurd c98 (nI_nm1 (by omega))
      refine q_aload_n F 0 dX5_answer_101 rfl rfl ?_
      refine q_iload_n F 1 dX5_answer_102 rfl rfl ?_
      refine q_iload_n F 2 dX5_answer_103 rfl rfl ?_
      refine q_aload_n F 0 dX5_answer_104 rfl rfl ?_
      refine qg_X5_51 F (hM.1.2.1 18 rfl).1 hM.1.1 dX5_answer_105 ?_
      refine q_iload F dX5_answer_108 rfl ?_
      refine q_iald F (hM.1.2.1 18 rfl).2.1 (hM.1.2.1 18 rfl).2.2 rfl (show ci < 20 by omega) (by decide) dX5_answer_110 ?_
      refine q_ma 18 (M 18 ci) rfl hM (congrFun (aSee_f (by decide) n) ci) ?_
      refine q_callV_gv F (c_X5_sees (M := aSee (seeB M (sc 1) key key name port) (sc 1) M n) hM hn hn40 (sz_see hsz)) gX5_answer_X5_sees rfl hd_X5_sees ⟨Nat.le_of_ble_eq_true rfl, Nat.le_of_ble_eq_true rfl⟩ hM.1.1 rfl rfl rfl (Nat.le_of_ble_eq_true rfl) dX5_answer_111 ⟨Nat.le_of_ble_eq_true rfl, Nat.le_of_ble_eq_true rfl⟩ (fun S111 hp111 => ?_)
      obtain ⟨hM, hm111⟩ := hp111
      have hm := hm.trans hm111
      refine q_iload F dX5_answer_114 rfl ?_
      refine q_iconst F dX5_answer_116 hc_5 ?_
      refine q_icmp_ne F 143 dX5_answer_117 rfl (fun c117 => ?_) (fun c117 => ?_)
      · refine q_iload F dX5_answer_143 rfl ?_
        exact (q_reti F hr rfl dX5_answer_145 (Nat.le_of_ble_eq_true rfl) (Nat.le_of_ble_eq_true rfl) ⟨_, rfl, rfl, by first | exact ansM_see2 (sc := va_up sc 0 0) hn (Or.inl c79) hM | exact ansM_see2 (sc := va_up sc 0 0) hn (Or.inr c85) hM | exact ansM_new (sc := va_up sc 0 0) c117 c124 hlt hM | exact ansM_no (sc := va_up sc 0 0) key hn c79 c85 (n5A c117) (wkA c28 c36) hM | exact ansM_no (sc := va_up sc 0 0) key hn c79 c85 (n5A c117) (wkB c42) hM | exact ansM_no (sc := va_up sc 0 0) (-1) hn c79 c85 (n5A c117) (wkC c42 c36) hM | exact ansM_no (sc := va_up sc 0 0) (-1) hn c79 c85 (n5A c117) (wkD c42 c28) hM | exact ansM_no (sc := va_up sc 0 0) key hn c79 c85 (n5B c124) (wkA c28 c36) hM | exact ansM_no (sc := va_up sc 0 0) key hn c79 c85 (n5B c124) (wkB c42) hM | exact ansM_no (sc := va_up sc 0 0) (-1) hn c79 c85 (n5B c124) (wkC c42 c36) hM | exact ansM_no (sc := va_up sc 0 0) (-1) hn c79 c85 (n5B c124) (wkD c42 c28) hM | exact ansM_no (sc := va_up sc 0 0) key hn c79 c85 (n5C c133) (wkA c28 c36) hM | exact ansM_no (sc := va_up sc 0 0) key hn c79 c85 (n5C c133) (wkB c42) hM | exact ansM_no (sc := va_up sc 0 0) (-1) hn c79 c85 (n5C c133) (wkC c42 c36) hM | exact ansM_no (sc := va_up sc 0 0) (-1) hn c79 c85 (n5C c133) (wkD c42 c28) hM | exact xI (by decide) c28 c42 | exact xI (by decide) c79 c42 | exact xI (by decide) c85 c42 | exact xI (by decide) c79 c28 | exact xI (by decide) c85 c28 | exact xI (by decide) c117 c42 | exact xI (by decide) c36 c124, hm⟩)
      exact absurd c117 (by first | (rw [c79]; decide) | (rw [c85]; decide))
    refine q_aload_n F 0 dX5_answer_31 rfl rfl ?_
    refine qg_X5_7 F hM.1.1 dX5_answer_32 ?_
    refine q_mg 2 (sc 2) rfl hM rfl ?_
    refine q_iconst F dX5_answer_35 hc_1 ?_
    refine q_icmp_eq F 45 dX5_answer_36 rfl (fun c36 => ?_) (fun c36 => ?_)
    · refine q_iconst F dX5_answer_45 hc_1 ?_
      refine q_goto F 50 dX5_answer_46 rfl ?_
      refine q_istore F dX5_answer_50 (by decide) rfl ?_
      refine q_aload_n F 0 dX5_answer_52 rfl rfl ?_
      refine q_iload F dX5_answer_53 rfl ?_
      refine q_if_eq F 62 dX5_answer_55 rfl (fun c55 => ?_) (fun c55 => ?_)
      · exact absurd c55 (by decide)
      refine q_iload_n F 3 dX5_answer_58 rfl rfl ?_
      refine q_goto F 63 dX5_answer_59 rfl ?_
      refine qp_X5_81 F hM.1.1 dX5_answer_63 ?_
      refine q_mF 29 hM hm (fun S63 hM hm => ?_)
      refine q_aload_n F 0 dX5_answer_66 rfl rfl ?_
      refine q_iload_n F 1 dX5_answer_67 rfl rfl ?_
      refine qp_X5_179 F hM.1.1 dX5_answer_68 ?_
      refine q_mF 30 hM hm (fun S68 hM hm => ?_)
      refine q_aload_n F 0 dX5_answer_71 rfl rfl ?_
      refine q_iload_n F 2 dX5_answer_72 rfl rfl ?_
      refine qp_X5_182 F hM.1.1 dX5_answer_73 ?_
      refine q_mF 31 hM hm (fun S73 hM hm => ?_)
      refine q_iload F dX5_answer_76 rfl ?_
      refine q_iconst F dX5_answer_78 hc_1 ?_
      refine q_icmp_eq F 88 dX5_answer_79 rfl (fun c79 => ?_) (fun c79 => ?_)
      · refine q_aload_n F 0 dX5_answer_88 rfl rfl ?_
        refine q_iload_n F 1 dX5_answer_89 rfl rfl ?_
        refine q_iload_n F 2 dX5_answer_90 rfl rfl ?_
        refine q_iload_n F 3 dX5_answer_91 rfl rfl ?_
        refine q_callV_gv F (c_X5_sees hM hn hn40 hsz) gX5_answer_X5_sees rfl hd_X5_sees ⟨Nat.le_of_ble_eq_true rfl, Nat.le_of_ble_eq_true rfl⟩ hM.1.1 rfl rfl rfl (Nat.le_of_ble_eq_true rfl) dX5_answer_92 ⟨Nat.le_of_ble_eq_true rfl, Nat.le_of_ble_eq_true rfl⟩ (fun S92 hp92 => ?_)
        obtain ⟨hM, hm92⟩ := hp92
        have hm := hm.trans hm92
        refine q_iload F dX5_answer_95 rfl ?_
        refine q_iconst F dX5_answer_97 hc_m1 ?_
        refine q_icmp_eq F 114 dX5_answer_98 rfl (fun c98 => ?_) (fun c98 => ?_)
        · exact absurd c98 (nI_nm1 (by omega))
        refine q_aload_n F 0 dX5_answer_101 rfl rfl ?_
        refine q_iload_n F 1 dX5_answer_102 rfl rfl ?_
        refine q_iload_n F 2 dX5_answer_103 rfl rfl ?_
        refine q_aload_n F 0 dX5_answer_104 rfl rfl ?_
        refine qg_X5_51 F (hM.1.2.1 18 rfl).1 hM.1.1 dX5_answer_105 ?_
        refine q_iload F dX5_answer_108 rfl ?_
        refine q_iald F (hM.1.2.1 18 rfl).2.1 (hM.1.2.1 18 rfl).2.2 rfl (show ci < 20 by omega) (by decide) dX5_answer_110 ?_
        refine q_ma 18 (M 18 ci) rfl hM (congrFun (aSee_f (by decide) n) ci) ?_
        refine q_callV_gv F (c_X5_sees (M := aSee (seeB M (sc 1) key key name port) (sc 1) M n) hM hn hn40 (sz_see hsz)) gX5_answer_X5_sees rfl hd_X5_sees ⟨Nat.le_of_ble_eq_true rfl, Nat.le_of_ble_eq_true rfl⟩ hM.1.1 rfl rfl rfl (Nat.le_of_ble_eq_true rfl) dX5_answer_111 ⟨Nat.le_of_ble_eq_true rfl, Nat.le_of_ble_eq_true rfl⟩ (fun S111 hp111 => ?_)
        obtain ⟨hM, hm111⟩ := hp111
        have hm := hm.trans hm111
        refine q_iload F dX5_answer_114 rfl ?_
        refine q_iconst F dX5_answer_116 hc_5 ?_
        refine q_icmp_ne F 143 dX5_answer_117 rfl (fun c117 => ?_) (fun c117 => ?_)
        · refine q_iload F dX5_answer_143 rfl ?_
          exact (q_reti F hr rfl dX5_answer_145 (Nat.le_of_ble_eq_true rfl) (Nat.le_of_ble_eq_true rfl) ⟨_, rfl, rfl, by first | exact ansM_see2 (sc := va_up sc 0 0) hn (Or.inl c79) hM | exact ansM_see2 (sc := va_up sc 0 0) hn (Or.inr c85) hM | exact ansM_new (sc := va_up sc 0 0) c117 c124 hlt hM | exact ansM_no (sc := va_up sc 0 0) key hn c79 c85 (n5A c117) (wkA c28 c36) hM | exact ansM_no (sc := va_up sc 0 0) key hn c79 c85 (n5A c117) (wkB c42) hM | exact ansM_no (sc := va_up sc 0 0) (-1) hn c79 c85 (n5A c117) (wkC c42 c36) hM | exact ansM_no (sc := va_up sc 0 0) (-1) hn c79 c85 (n5A c117) (wkD c42 c28) hM | exact ansM_no (sc := va_up sc 0 0) key hn c79 c85 (n5B c124) (wkA c28 c36) hM | exact ansM_no (sc := va_up sc 0 0) key hn c79 c85 (n5B c124) (wkB c42) hM | exact ansM_no (sc := va_up sc 0 0) (-1) hn c79 c85 (n5B c124) (wkC c42 c36) hM | exact ansM_no (sc := va_up sc 0 0) (-1) hn c79 c85 (n5B c124) (wkD c42 c28) hM | exact ansM_no (sc := va_up sc 0 0) key hn c79 c85 (n5C c133) (wkA c28 c36) hM | exact ansM_no (sc := va_up sc 0 0) key hn c79 c85 (n5C c133) (wkB c42) hM | exact ansM_no (sc := va_up sc 0 0) (-1) hn c79 c85 (n5C c133) (wkC c42 c36) hM | exact ansM_no (sc := va_up sc 0 0) (-1) hn c79 c85 (n5C c133) (wkD c42 c28) hM | exact xI (by decide) c28 c42 | exact xI (by decide) c79 c42 | exact xI (by decide) c85 c42 | exact xI (by decide) c79 c28 | exact xI (by decide) c85 c28 | exact xI (by decide) c117 c42 | exact xI (by decide) c36 c124, hm⟩)
        exact absurd c117 (by first | (rw [c79]; decide) | (rw [c85]; decide))
      refine q_iload F dX5_answer_82 rfl ?_
      refine q_iconst F dX5_answer_84 hc_2 ?_
      refine q_icmp_ne F 114 dX5_answer_85 rfl (fun c85 => ?_) (fun c85 => ?_)
      · refine q_iload F dX5_answer_114 rfl ?_
        refine q_iconst F dX5_answer_116 hc_5 ?_
        refine q_icmp_ne F 143 dX5_answer_117 rfl (fun c117 => ?_) (fun c117 => ?_)
        · refine q_iload F dX5_answer_143 rfl ?_
          exact (q_reti F hr rfl dX5_answer_145 (Nat.le_of_ble_eq_true rfl) (Nat.le_of_ble_eq_true rfl) ⟨_, rfl, rfl, by first | exact ansM_see2 (sc := va_up sc 0 0) hn (Or.inl c79) hM | exact ansM_see2 (sc := va_up sc 0 0) hn (Or.inr c85) hM | exact ansM_new (sc := va_up sc 0 0) c117 c124 hlt hM | exact ansM_no (sc := va_up sc 0 0) key hn c79 c85 (n5A c117) (wkA c28 c36) hM | exact ansM_no (sc := va_up sc 0 0) key hn c79 c85 (n5A c117) (wkB c42) hM | exact ansM_no (sc := va_up sc 0 0) (-1) hn c79 c85 (n5A c117) (wkC c42 c36) hM | exact ansM_no (sc := va_up sc 0 0) (-1) hn c79 c85 (n5A c117) (wkD c42 c28) hM | exact ansM_no (sc := va_up sc 0 0) key hn c79 c85 (n5B c124) (wkA c28 c36) hM | exact ansM_no (sc := va_up sc 0 0) key hn c79 c85 (n5B c124) (wkB c42) hM | exact ansM_no (sc := va_up sc 0 0) (-1) hn c79 c85 (n5B c124) (wkC c42 c36) hM | exact ansM_no (sc := va_up sc 0 0) (-1) hn c79 c85 (n5B c124) (wkD c42 c28) hM | exact ansM_no (sc := va_up sc 0 0) key hn c79 c85 (n5C c133) (wkA c28 c36) hM | exact ansM_no (sc := va_up sc 0 0) key hn c79 c85 (n5C c133) (wkB c42) hM | exact ansM_no (sc := va_up sc 0 0) (-1) hn c79 c85 (n5C c133) (wkC c42 c36) hM | exact ansM_no (sc := va_up sc 0 0) (-1) hn c79 c85 (n5C c133) (wkD c42 c28) hM | exact xI (by decide) c28 c42 | exact xI (by decide) c79 c42 | exact xI (by decide) c85 c42 | exact xI (by decide) c79 c28 | exact xI (by decide) c85 c28 | exact xI (by decide) c117 c42 | exact xI (by decide) c36 c124, hm⟩)
        refine q_aload_n F 0 dX5_answer_120 rfl rfl ?_
        refine qg_X5_7 F hM.1.1 dX5_answer_121 ?_
        refine q_mg 2 (sc 2) rfl hM rfl ?_
        refine q_if_ne F 143 dX5_answer_124 rfl (fun c124 => ?_) (fun c124 => ?_)
        · refine q_iload F dX5_answer_143 rfl ?_
          exact (q_reti F hr rfl dX5_answer_145 (Nat.le_of_ble_eq_true rfl) (Nat.le_of_ble_eq_true rfl) ⟨_, rfl, rfl, by first | exact ansM_see2 (sc := va_up sc 0 0) hn (Or.inl c79) hM | exact ansM_see2 (sc := va_up sc 0 0) hn (Or.inr c85) hM | exact ansM_new (sc := va_up sc 0 0) c117 c124 hlt hM | exact ansM_no (sc := va_up sc 0 0) key hn c79 c85 (n5A c117) (wkA c28 c36) hM | exact ansM_no (sc := va_up sc 0 0) key hn c79 c85 (n5A c117) (wkB c42) hM | exact ansM_no (sc := va_up sc 0 0) (-1) hn c79 c85 (n5A c117) (wkC c42 c36) hM | exact ansM_no (sc := va_up sc 0 0) (-1) hn c79 c85 (n5A c117) (wkD c42 c28) hM | exact ansM_no (sc := va_up sc 0 0) key hn c79 c85 (n5B c124) (wkA c28 c36) hM | exact ansM_no (sc := va_up sc 0 0) key hn c79 c85 (n5B c124) (wkB c42) hM | exact ansM_no (sc := va_up sc 0 0) (-1) hn c79 c85 (n5B c124) (wkC c42 c36) hM | exact ansM_no (sc := va_up sc 0 0) (-1) hn c79 c85 (n5B c124) (wkD c42 c28) hM | exact ansM_no (sc := va_up sc 0 0) key hn c79 c85 (n5C c133) (wkA c28 c36) hM | exact ansM_no (sc := va_up sc 0 0) key hn c79 c85 (n5C c133) (wkB c42) hM | exact ansM_no (sc := va_up sc 0 0) (-1) hn c79 c85 (n5C c133) (wkC c42 c36) hM | exact ansM_no (sc := va_up sc 0 0) (-1) hn c79 c85 (n5C c133) (wkD c42 c28) hM | exact xI (by decide) c28 c42 | exact xI (by decide) c79 c42 | exact xI (by decide) c85 c42 | exact xI (by decide) c79 c28 | exact xI (by decide) c85 c28 | exact xI (by decide) c117 c42 | exact xI (by decide) c36 c124, hm⟩)
        refine q_aload_n F 0 dX5_answer_127 rfl rfl ?_
        refine qg_X5_91 F hM.1.1 dX5_answer_128 ?_
        refine q_mg 4 (nI n) rfl hM hn ?_
        refine q_bipush (v := 40) F dX5_answer_131 (by decide) ?_
        refine q_icmp_ge F 143 dX5_answer_133 rfl (fun c133 => ?_) (fun c133 => ?_)
        · refine q_iload F dX5_answer_143 rfl ?_
          exact (q_reti F hr rfl dX5_answer_145 (Nat.le_of_ble_eq_true rfl) (Nat.le_of_ble_eq_true rfl) ⟨_, rfl, rfl, by first | exact ansM_see2 (sc := va_up sc 0 0) hn (Or.inl c79) hM | exact ansM_see2 (sc := va_up sc 0 0) hn (Or.inr c85) hM | exact ansM_new (sc := va_up sc 0 0) c117 c124 hlt hM | exact ansM_no (sc := va_up sc 0 0) key hn c79 c85 (n5A c117) (wkA c28 c36) hM | exact ansM_no (sc := va_up sc 0 0) key hn c79 c85 (n5A c117) (wkB c42) hM | exact ansM_no (sc := va_up sc 0 0) (-1) hn c79 c85 (n5A c117) (wkC c42 c36) hM | exact ansM_no (sc := va_up sc 0 0) (-1) hn c79 c85 (n5A c117) (wkD c42 c28) hM | exact ansM_no (sc := va_up sc 0 0) key hn c79 c85 (n5B c124) (wkA c28 c36) hM | exact ansM_no (sc := va_up sc 0 0) key hn c79 c85 (n5B c124) (wkB c42) hM | exact ansM_no (sc := va_up sc 0 0) (-1) hn c79 c85 (n5B c124) (wkC c42 c36) hM | exact ansM_no (sc := va_up sc 0 0) (-1) hn c79 c85 (n5B c124) (wkD c42 c28) hM | exact ansM_no (sc := va_up sc 0 0) key hn c79 c85 (n5C c133) (wkA c28 c36) hM | exact ansM_no (sc := va_up sc 0 0) key hn c79 c85 (n5C c133) (wkB c42) hM | exact ansM_no (sc := va_up sc 0 0) (-1) hn c79 c85 (n5C c133) (wkC c42 c36) hM | exact ansM_no (sc := va_up sc 0 0) (-1) hn c79 c85 (n5C c133) (wkD c42 c28) hM | exact xI (by decide) c28 c42 | exact xI (by decide) c79 c42 | exact xI (by decide) c85 c42 | exact xI (by decide) c79 c28 | exact xI (by decide) c85 c28 | exact xI (by decide) c117 c42 | exact xI (by decide) c36 c124, hm⟩)
        have hlt : n < 40 := y40 hn40 c133
        refine q_aload_n F 0 dX5_answer_136 rfl rfl ?_
        refine q_iload_n F 1 dX5_answer_137 rfl rfl ?_
        refine q_iload_n F 2 dX5_answer_138 rfl rfl ?_
        refine q_iload_n F 3 dX5_answer_139 rfl rfl ?_
        refine q_callV_gv F (c_X5_trusts hM hn hlt) gX5_answer_X5_trusts rfl hd_X5_trusts ⟨Nat.le_of_ble_eq_true rfl, Nat.le_of_ble_eq_true rfl⟩ hM.1.1 rfl rfl rfl (Nat.le_of_ble_eq_true rfl) dX5_answer_140 ⟨Nat.le_of_ble_eq_true rfl, Nat.le_of_ble_eq_true rfl⟩ (fun S140 hp140 => ?_)
        obtain ⟨hM, hm140⟩ := hp140
        have hm := hm.trans hm140
        refine q_iload F dX5_answer_143 rfl ?_
        exact (q_reti F hr rfl dX5_answer_145 (Nat.le_of_ble_eq_true rfl) (Nat.le_of_ble_eq_true rfl) ⟨_, rfl, rfl, by first | exact ansM_see2 (sc := va_up sc 0 0) hn (Or.inl c79) hM | exact ansM_see2 (sc := va_up sc 0 0) hn (Or.inr c85) hM | exact ansM_new (sc := va_up sc 0 0) c117 c124 hlt hM | exact ansM_no (sc := va_up sc 0 0) key hn c79 c85 (n5A c117) (wkA c28 c36) hM | exact ansM_no (sc := va_up sc 0 0) key hn c79 c85 (n5A c117) (wkB c42) hM | exact ansM_no (sc := va_up sc 0 0) (-1) hn c79 c85 (n5A c117) (wkC c42 c36) hM | exact ansM_no (sc := va_up sc 0 0) (-1) hn c79 c85 (n5A c117) (wkD c42 c28) hM | exact ansM_no (sc := va_up sc 0 0) key hn c79 c85 (n5B c124) (wkA c28 c36) hM | exact ansM_no (sc := va_up sc 0 0) key hn c79 c85 (n5B c124) (wkB c42) hM | exact ansM_no (sc := va_up sc 0 0) (-1) hn c79 c85 (n5B c124) (wkC c42 c36) hM | exact ansM_no (sc := va_up sc 0 0) (-1) hn c79 c85 (n5B c124) (wkD c42 c28) hM | exact ansM_no (sc := va_up sc 0 0) key hn c79 c85 (n5C c133) (wkA c28 c36) hM | exact ansM_no (sc := va_up sc 0 0) key hn c79 c85 (n5C c133) (wkB c42) hM | exact ansM_no (sc := va_up sc 0 0) (-1) hn c79 c85 (n5C c133) (wkC c42 c36) hM | exact ansM_no (sc := va_up sc 0 0) (-1) hn c79 c85 (n5C c133) (wkD c42 c28) hM | exact xI (by decide) c28 c42 | exact xI (by decide) c79 c42 | exact xI (by decide) c85 c42 | exact xI (by decide) c79 c28 | exact xI (by decide) c85 c28 | exact xI (by decide) c117 c42 | exact xI (by decide) c36 c124, hm⟩)
      refine q_aload_n F 0 dX5_answer_88 rfl rfl ?_
      refine q_iload_n F 1 dX5_answer_89 rfl rfl ?_
      refine q_iload_n F 2 dX5_answer_90 rfl rfl ?_
      refine q_iload_n F 3 dX5_answer_91 rfl rfl ?_
      refine q_callV_gv F (c_X5_sees hM hn hn40 hsz) gX5_answer_X5_sees rfl hd_X5_sees ⟨Nat.le_of_ble_eq_true rfl, Nat.le_of_ble_eq_true rfl⟩ hM.1.1 rfl rfl rfl (Nat.le_of_ble_eq_true rfl) dX5_answer_92 ⟨Nat.le_of_ble_eq_true rfl, Nat.le_of_ble_eq_true rfl⟩ (fun S92 hp92 => ?_)
      obtain ⟨hM, hm92⟩ := hp92
      have hm := hm.trans hm92
      refine q_iload F dX5_answer_95 rfl ?_
      refine q_iconst F dX5_answer_97 hc_m1 ?_
      refine q_icmp_eq F 114 dX5_answer_98 rfl (fun c98 => ?_) (fun c98 => ?_)
      · exact absurd c98 (nI_nm1 (by omega))
      refine q_aload_n F 0 dX5_answer_101 rfl rfl ?_
      refine q_iload_n F 1 dX5_answer_102 rfl rfl ?_
      refine q_iload_n F 2 dX5_answer_103 rfl rfl ?_
      refine q_aload_n F 0 dX5_answer_104 rfl rfl ?_
      refine qg_X5_51 F (hM.1.2.1 18 rfl).1 hM.1.1 dX5_answer_105 ?_
      refine q_iload F dX5_answer_108 rfl ?_
      refine q_iald F (hM.1.2.1 18 rfl).2.1 (hM.1.2.1 18 rfl).2.2 rfl (show ci < 20 by omega) (by decide) dX5_answer_110 ?_
      refine q_ma 18 (M 18 ci) rfl hM (congrFun (aSee_f (by decide) n) ci) ?_
      refine q_callV_gv F (c_X5_sees (M := aSee (seeB M (sc 1) key key name port) (sc 1) M n) hM hn hn40 (sz_see hsz)) gX5_answer_X5_sees rfl hd_X5_sees ⟨Nat.le_of_ble_eq_true rfl, Nat.le_of_ble_eq_true rfl⟩ hM.1.1 rfl rfl rfl (Nat.le_of_ble_eq_true rfl) dX5_answer_111 ⟨Nat.le_of_ble_eq_true rfl, Nat.le_of_ble_eq_true rfl⟩ (fun S111 hp111 => ?_)
      obtain ⟨hM, hm111⟩ := hp111
      have hm := hm.trans hm111
      refine q_iload F dX5_answer_114 rfl ?_
      refine q_iconst F dX5_answer_116 hc_5 ?_
      refine q_icmp_ne F 143 dX5_answer_117 rfl (fun c117 => ?_) (fun c117 => ?_)
      · refine q_iload F dX5_answer_143 rfl ?_
        exact (q_reti F hr rfl dX5_answer_145 (Nat.le_of_ble_eq_true rfl) (Nat.le_of_ble_eq_true rfl) ⟨_, rfl, rfl, by first | exact ansM_see2 (sc := va_up sc 0 0) hn (Or.inl c79) hM | exact ansM_see2 (sc := va_up sc 0 0) hn (Or.inr c85) hM | exact ansM_new (sc := va_up sc 0 0) c117 c124 hlt hM | exact ansM_no (sc := va_up sc 0 0) key hn c79 c85 (n5A c117) (wkA c28 c36) hM | exact ansM_no (sc := va_up sc 0 0) key hn c79 c85 (n5A c117) (wkB c42) hM | exact ansM_no (sc := va_up sc 0 0) (-1) hn c79 c85 (n5A c117) (wkC c42 c36) hM | exact ansM_no (sc := va_up sc 0 0) (-1) hn c79 c85 (n5A c117) (wkD c42 c28) hM | exact ansM_no (sc := va_up sc 0 0) key hn c79 c85 (n5B c124) (wkA c28 c36) hM | exact ansM_no (sc := va_up sc 0 0) key hn c79 c85 (n5B c124) (wkB c42) hM | exact ansM_no (sc := va_up sc 0 0) (-1) hn c79 c85 (n5B c124) (wkC c42 c36) hM | exact ansM_no (sc := va_up sc 0 0) (-1) hn c79 c85 (n5B c124) (wkD c42 c28) hM | exact ansM_no (sc := va_up sc 0 0) key hn c79 c85 (n5C c133) (wkA c28 c36) hM | exact ansM_no (sc := va_up sc 0 0) key hn c79 c85 (n5C c133) (wkB c42) hM | exact ansM_no (sc := va_up sc 0 0) (-1) hn c79 c85 (n5C c133) (wkC c42 c36) hM | exact ansM_no (sc := va_up sc 0 0) (-1) hn c79 c85 (n5C c133) (wkD c42 c28) hM | exact xI (by decide) c28 c42 | exact xI (by decide) c79 c42 | exact xI (by decide) c85 c42 | exact xI (by decide) c79 c28 | exact xI (by decide) c85 c28 | exact xI (by decide) c117 c42 | exact xI (by decide) c36 c124, hm⟩)
      exact absurd c117 (by first | (rw [c79]; decide) | (rw [c85]; decide))
    refine q_iload F dX5_answer_39 rfl ?_
    refine q_iconst F dX5_answer_41 hc_4 ?_
    refine q_icmp_ne F 49 dX5_answer_42 rfl (fun c42 => ?_) (fun c42 => ?_)
    · refine q_iconst F dX5_answer_49 hc_0 ?_
      refine q_istore F dX5_answer_50 (by decide) rfl ?_
      refine q_aload_n F 0 dX5_answer_52 rfl rfl ?_
      refine q_iload F dX5_answer_53 rfl ?_
      refine q_if_eq F 62 dX5_answer_55 rfl (fun c55 => ?_) (fun c55 => ?_)
      · refine q_iconst F dX5_answer_62 hc_m1 ?_
        refine qp_X5_81 F hM.1.1 dX5_answer_63 ?_
        refine q_mF 29 hM hm (fun S63 hM hm => ?_)
        refine q_aload_n F 0 dX5_answer_66 rfl rfl ?_
        refine q_iload_n F 1 dX5_answer_67 rfl rfl ?_
        refine qp_X5_179 F hM.1.1 dX5_answer_68 ?_
        refine q_mF 30 hM hm (fun S68 hM hm => ?_)
        refine q_aload_n F 0 dX5_answer_71 rfl rfl ?_
        refine q_iload_n F 2 dX5_answer_72 rfl rfl ?_
        refine qp_X5_182 F hM.1.1 dX5_answer_73 ?_
        refine q_mF 31 hM hm (fun S73 hM hm => ?_)
        refine q_iload F dX5_answer_76 rfl ?_
        refine q_iconst F dX5_answer_78 hc_1 ?_
        refine q_icmp_eq F 88 dX5_answer_79 rfl (fun c79 => ?_) (fun c79 => ?_)
        · refine q_aload_n F 0 dX5_answer_88 rfl rfl ?_
          refine q_iload_n F 1 dX5_answer_89 rfl rfl ?_
          refine q_iload_n F 2 dX5_answer_90 rfl rfl ?_
          refine q_iload_n F 3 dX5_answer_91 rfl rfl ?_
          refine q_callV_gv F (c_X5_sees hM hn hn40 hsz) gX5_answer_X5_sees rfl hd_X5_sees ⟨Nat.le_of_ble_eq_true rfl, Nat.le_of_ble_eq_true rfl⟩ hM.1.1 rfl rfl rfl (Nat.le_of_ble_eq_true rfl) dX5_answer_92 ⟨Nat.le_of_ble_eq_true rfl, Nat.le_of_ble_eq_true rfl⟩ (fun S92 hp92 => ?_)
          obtain ⟨hM, hm92⟩ := hp92
          have hm := hm.trans hm92
          refine q_iload F dX5_answer_95 rfl ?_
          refine q_iconst F dX5_answer_97 hc_m1 ?_
          refine q_icmp_eq F 114 dX5_answer_98 rfl (fun c98 => ?_) (fun c98 => ?_)
          · exact absurd c98 (nI_nm1 (by omega))
          refine q_aload_n F 0 dX5_answer_101 rfl rfl ?_
          refine q_iload_n F 1 dX5_answer_102 rfl rfl ?_
          refine q_iload_n F 2 dX5_answer_103 rfl rfl ?_
          refine q_aload_n F 0 dX5_answer_104 rfl rfl ?_
          refine qg_X5_51 F (hM.1.2.1 18 rfl).1 hM.1.1 dX5_answer_105 ?_
          refine q_iload F dX5_answer_108 rfl ?_
          refine q_iald F (hM.1.2.1 18 rfl).2.1 (hM.1.2.1 18 rfl).2.2 rfl (show ci < 20 by omega) (by decide) dX5_answer_110 ?_
          refine q_ma 18 (M 18 ci) rfl hM (congrFun (aSee_f (by decide) n) ci) ?_
          refine q_callV_gv F (c_X5_sees (M := aSee (seeB M (sc 1) key key name port) (sc 1) M n) hM hn hn40 (sz_see hsz)) gX5_answer_X5_sees rfl hd_X5_sees ⟨Nat.le_of_ble_eq_true rfl, Nat.le_of_ble_eq_true rfl⟩ hM.1.1 rfl rfl rfl (Nat.le_of_ble_eq_true rfl) dX5_answer_111 ⟨Nat.le_of_ble_eq_true rfl, Nat.le_of_ble_eq_true rfl⟩ (fun S111 hp111 => ?_)
          obtain ⟨hM, hm111⟩ := hp111
          have hm := hm.trans hm111
          refine q_iload F dX5_answer_114 rfl ?_
          refine q_iconst F dX5_answer_116 hc_5 ?_
          refine q_icmp_ne F 143 dX5_answer_117 rfl (fun c117 => ?_) (fun c117 => ?_)
          · refine q_iload F dX5_answer_143 rfl ?_
            exact (q_reti F hr rfl dX5_answer_145 (Nat.le_of_ble_eq_true rfl) (Nat.le_of_ble_eq_true rfl) ⟨_, rfl, rfl, by first | exact ansM_see2 (sc := va_up sc 0 0) hn (Or.inl c79) hM | exact ansM_see2 (sc := va_up sc 0 0) hn (Or.inr c85) hM | exact ansM_new (sc := va_up sc 0 0) c117 c124 hlt hM | exact ansM_no (sc := va_up sc 0 0) key hn c79 c85 (n5A c117) (wkA c28 c36) hM | exact ansM_no (sc := va_up sc 0 0) key hn c79 c85 (n5A c117) (wkB c42) hM | exact ansM_no (sc := va_up sc 0 0) (-1) hn c79 c85 (n5A c117) (wkC c42 c36) hM | exact ansM_no (sc := va_up sc 0 0) (-1) hn c79 c85 (n5A c117) (wkD c42 c28) hM | exact ansM_no (sc := va_up sc 0 0) key hn c79 c85 (n5B c124) (wkA c28 c36) hM | exact ansM_no (sc := va_up sc 0 0) key hn c79 c85 (n5B c124) (wkB c42) hM | exact ansM_no (sc := va_up sc 0 0) (-1) hn c79 c85 (n5B c124) (wkC c42 c36) hM | exact ansM_no (sc := va_up sc 0 0) (-1) hn c79 c85 (n5B c124) (wkD c42 c28) hM | exact ansM_no (sc := va_up sc 0 0) key hn c79 c85 (n5C c133) (wkA c28 c36) hM | exact ansM_no (sc := va_up sc 0 0) key hn c79 c85 (n5C c133) (wkB c42) hM | exact ansM_no (sc := va_up sc 0 0) (-1) hn c79 c85 (n5C c133) (wkC c42 c36) hM | exact ansM_no (sc := va_up sc 0 0) (-1) hn c79 c85 (n5C c133) (wkD c42 c28) hM | exact xI (by decide) c28 c42 | exact xI (by decide) c79 c42 | exact xI (by decide) c85 c42 | exact xI (by decide) c79 c28 | exact xI (by decide) c85 c28 | exact xI (by decide) c117 c42 | exact xI (by decide) c36 c124, hm⟩)
          exact absurd c117 (by first | (rw [c79]; decide) | (rw [c85]; decide))
        refine q_iload F dX5_answer_82 rfl ?_
        refine q_iconst F dX5_answer_84 hc_2 ?_
        refine q_icmp_ne F 114 dX5_answer_85 rfl (fun c85 => ?_) (fun c85 => ?_)
        · refine q_iload F dX5_answer_114 rfl ?_
          refine q_iconst F dX5_answer_116 hc_5 ?_
          refine q_icmp_ne F 143 dX5_answer_117 rfl (fun c117 => ?_) (fun c117 => ?_)
          · refine q_iload F dX5_answer_143 rfl ?_
            exact (q_reti F hr rfl dX5_answer_145 (Nat.le_of_ble_eq_true rfl) (Nat.le_of_ble_eq_true rfl) ⟨_, rfl, rfl, by first | exact ansM_see2 (sc := va_up sc 0 0) hn (Or.inl c79) hM | exact ansM_see2 (sc := va_up sc 0 0) hn (Or.inr c85) hM | exact ansM_new (sc := va_up sc 0 0) c117 c124 hlt hM | exact ansM_no (sc := va_up sc 0 0) key hn c79 c85 (n5A c117) (wkA c28 c36) hM | exact ansM_no (sc := va_up sc 0 0) key hn c79 c85 (n5A c117) (wkB c42) hM | exact ansM_no (sc := va_up sc 0 0) (-1) hn c79 c85 (n5A c117) (wkC c42 c36) hM | exact ansM_no (sc := va_up sc 0 0) (-1) hn c79 c85 (n5A c117) (wkD c42 c28) hM | exact ansM_no (sc := va_up sc 0 0) key hn c79 c85 (n5B c124) (wkA c28 c36) hM | exact ansM_no (sc := va_up sc 0 0) key hn c79 c85 (n5B c124) (wkB c42) hM | exact ansM_no (sc := va_up sc 0 0) (-1) hn c79 c85 (n5B c124) (wkC c42 c36) hM | exact ansM_no (sc := va_up sc 0 0) (-1) hn c79 c85 (n5B c124) (wkD c42 c28) hM | exact ansM_no (sc := va_up sc 0 0) key hn c79 c85 (n5C c133) (wkA c28 c36) hM | exact ansM_no (sc := va_up sc 0 0) key hn c79 c85 (n5C c133) (wkB c42) hM | exact ansM_no (sc := va_up sc 0 0) (-1) hn c79 c85 (n5C c133) (wkC c42 c36) hM | exact ansM_no (sc := va_up sc 0 0) (-1) hn c79 c85 (n5C c133) (wkD c42 c28) hM | exact xI (by decide) c28 c42 | exact xI (by decide) c79 c42 | exact xI (by decide) c85 c42 | exact xI (by decide) c79 c28 | exact xI (by decide) c85 c28 | exact xI (by decide) c117 c42 | exact xI (by decide) c36 c124, hm⟩)
          refine q_aload_n F 0 dX5_answer_120 rfl rfl ?_
          refine qg_X5_7 F hM.1.1 dX5_answer_121 ?_
          refine q_mg 2 (sc 2) rfl hM rfl ?_
          refine q_if_ne F 143 dX5_answer_124 rfl (fun c124 => ?_) (fun c124 => ?_)
          · refine q_iload F dX5_answer_143 rfl ?_
            exact (q_reti F hr rfl dX5_answer_145 (Nat.le_of_ble_eq_true rfl) (Nat.le_of_ble_eq_true rfl) ⟨_, rfl, rfl, by first | exact ansM_see2 (sc := va_up sc 0 0) hn (Or.inl c79) hM | exact ansM_see2 (sc := va_up sc 0 0) hn (Or.inr c85) hM | exact ansM_new (sc := va_up sc 0 0) c117 c124 hlt hM | exact ansM_no (sc := va_up sc 0 0) key hn c79 c85 (n5A c117) (wkA c28 c36) hM | exact ansM_no (sc := va_up sc 0 0) key hn c79 c85 (n5A c117) (wkB c42) hM | exact ansM_no (sc := va_up sc 0 0) (-1) hn c79 c85 (n5A c117) (wkC c42 c36) hM | exact ansM_no (sc := va_up sc 0 0) (-1) hn c79 c85 (n5A c117) (wkD c42 c28) hM | exact ansM_no (sc := va_up sc 0 0) key hn c79 c85 (n5B c124) (wkA c28 c36) hM | exact ansM_no (sc := va_up sc 0 0) key hn c79 c85 (n5B c124) (wkB c42) hM | exact ansM_no (sc := va_up sc 0 0) (-1) hn c79 c85 (n5B c124) (wkC c42 c36) hM | exact ansM_no (sc := va_up sc 0 0) (-1) hn c79 c85 (n5B c124) (wkD c42 c28) hM | exact ansM_no (sc := va_up sc 0 0) key hn c79 c85 (n5C c133) (wkA c28 c36) hM | exact ansM_no (sc := va_up sc 0 0) key hn c79 c85 (n5C c133) (wkB c42) hM | exact ansM_no (sc := va_up sc 0 0) (-1) hn c79 c85 (n5C c133) (wkC c42 c36) hM | exact ansM_no (sc := va_up sc 0 0) (-1) hn c79 c85 (n5C c133) (wkD c42 c28) hM | exact xI (by decide) c28 c42 | exact xI (by decide) c79 c42 | exact xI (by decide) c85 c42 | exact xI (by decide) c79 c28 | exact xI (by decide) c85 c28 | exact xI (by decide) c117 c42 | exact xI (by decide) c36 c124, hm⟩)
          refine q_aload_n F 0 dX5_answer_127 rfl rfl ?_
          refine qg_X5_91 F hM.1.1 dX5_answer_128 ?_
          refine q_mg 4 (nI n) rfl hM hn ?_
          refine q_bipush (v := 40) F dX5_answer_131 (by decide) ?_
          refine q_icmp_ge F 143 dX5_answer_133 rfl (fun c133 => ?_) (fun c133 => ?_)
          · refine q_iload F dX5_answer_143 rfl ?_
            exact (q_reti F hr rfl dX5_answer_145 (Nat.le_of_ble_eq_true rfl) (Nat.le_of_ble_eq_true rfl) ⟨_, rfl, rfl, by first | exact ansM_see2 (sc := va_up sc 0 0) hn (Or.inl c79) hM | exact ansM_see2 (sc := va_up sc 0 0) hn (Or.inr c85) hM | exact ansM_new (sc := va_up sc 0 0) c117 c124 hlt hM | exact ansM_no (sc := va_up sc 0 0) key hn c79 c85 (n5A c117) (wkA c28 c36) hM | exact ansM_no (sc := va_up sc 0 0) key hn c79 c85 (n5A c117) (wkB c42) hM | exact ansM_no (sc := va_up sc 0 0) (-1) hn c79 c85 (n5A c117) (wkC c42 c36) hM | exact ansM_no (sc := va_up sc 0 0) (-1) hn c79 c85 (n5A c117) (wkD c42 c28) hM | exact ansM_no (sc := va_up sc 0 0) key hn c79 c85 (n5B c124) (wkA c28 c36) hM | exact ansM_no (sc := va_up sc 0 0) key hn c79 c85 (n5B c124) (wkB c42) hM | exact ansM_no (sc := va_up sc 0 0) (-1) hn c79 c85 (n5B c124) (wkC c42 c36) hM | exact ansM_no (sc := va_up sc 0 0) (-1) hn c79 c85 (n5B c124) (wkD c42 c28) hM | exact ansM_no (sc := va_up sc 0 0) key hn c79 c85 (n5C c133) (wkA c28 c36) hM | exact ansM_no (sc := va_up sc 0 0) key hn c79 c85 (n5C c133) (wkB c42) hM | exact ansM_no (sc := va_up sc 0 0) (-1) hn c79 c85 (n5C c133) (wkC c42 c36) hM | exact ansM_no (sc := va_up sc 0 0) (-1) hn c79 c85 (n5C c133) (wkD c42 c28) hM | exact xI (by decide) c28 c42 | exact xI (by decide) c79 c42 | exact xI (by decide) c85 c42 | exact xI (by decide) c79 c28 | exact xI (by decide) c85 c28 | exact xI (by decide) c117 c42 | exact xI (by decide) c36 c124, hm⟩)
          have hlt : n < 40 := y40 hn40 c133
          refine q_aload_n F 0 dX5_answer_136 rfl rfl ?_
          refine q_iload_n F 1 dX5_answer_137 rfl rfl ?_
          refine q_iload_n F 2 dX5_answer_138 rfl rfl ?_
          refine q_iload_n F 3 dX5_answer_139 rfl rfl ?_
          refine q_callV_gv F (c_X5_trusts hM hn hlt) gX5_answer_X5_trusts rfl hd_X5_trusts ⟨Nat.le_of_ble_eq_true rfl, Nat.le_of_ble_eq_true rfl⟩ hM.1.1 rfl rfl rfl (Nat.le_of_ble_eq_true rfl) dX5_answer_140 ⟨Nat.le_of_ble_eq_true rfl, Nat.le_of_ble_eq_true rfl⟩ (fun S140 hp140 => ?_)
          obtain ⟨hM, hm140⟩ := hp140
          have hm := hm.trans hm140
          refine q_iload F dX5_answer_143 rfl ?_
          exact (q_reti F hr rfl dX5_answer_145 (Nat.le_of_ble_eq_true rfl) (Nat.le_of_ble_eq_true rfl) ⟨_, rfl, rfl, by first | exact ansM_see2 (sc := va_up sc 0 0) hn (Or.inl c79) hM | exact ansM_see2 (sc := va_up sc 0 0) hn (Or.inr c85) hM | exact ansM_new (sc := va_up sc 0 0) c117 c124 hlt hM | exact ansM_no (sc := va_up sc 0 0) key hn c79 c85 (n5A c117) (wkA c28 c36) hM | exact ansM_no (sc := va_up sc 0 0) key hn c79 c85 (n5A c117) (wkB c42) hM | exact ansM_no (sc := va_up sc 0 0) (-1) hn c79 c85 (n5A c117) (wkC c42 c36) hM | exact ansM_no (sc := va_up sc 0 0) (-1) hn c79 c85 (n5A c117) (wkD c42 c28) hM | exact ansM_no (sc := va_up sc 0 0) key hn c79 c85 (n5B c124) (wkA c28 c36) hM | exact ansM_no (sc := va_up sc 0 0) key hn c79 c85 (n5B c124) (wkB c42) hM | exact ansM_no (sc := va_up sc 0 0) (-1) hn c79 c85 (n5B c124) (wkC c42 c36) hM | exact ansM_no (sc := va_up sc 0 0) (-1) hn c79 c85 (n5B c124) (wkD c42 c28) hM | exact ansM_no (sc := va_up sc 0 0) key hn c79 c85 (n5C c133) (wkA c28 c36) hM | exact ansM_no (sc := va_up sc 0 0) key hn c79 c85 (n5C c133) (wkB c42) hM | exact ansM_no (sc := va_up sc 0 0) (-1) hn c79 c85 (n5C c133) (wkC c42 c36) hM | exact ansM_no (sc := va_up sc 0 0) (-1) hn c79 c85 (n5C c133) (wkD c42 c28) hM | exact xI (by decide) c28 c42 | exact xI (by decide) c79 c42 | exact xI (by decide) c85 c42 | exact xI (by decide) c79 c28 | exact xI (by decide) c85 c28 | exact xI (by decide) c117 c42 | exact xI (by decide) c36 c124, hm⟩)
        refine q_aload_n F 0 dX5_answer_88 rfl rfl ?_
        refine q_iload_n F 1 dX5_answer_89 rfl rfl ?_
        refine q_iload_n F 2 dX5_answer_90 rfl rfl ?_
        refine q_iload_n F 3 dX5_answer_91 rfl rfl ?_
        refine q_callV_gv F (c_X5_sees hM hn hn40 hsz) gX5_answer_X5_sees rfl hd_X5_sees ⟨Nat.le_of_ble_eq_true rfl, Nat.le_of_ble_eq_true rfl⟩ hM.1.1 rfl rfl rfl (Nat.le_of_ble_eq_true rfl) dX5_answer_92 ⟨Nat.le_of_ble_eq_true rfl, Nat.le_of_ble_eq_true rfl⟩ (fun S92 hp92 => ?_)
        obtain ⟨hM, hm92⟩ := hp92
        have hm := hm.trans hm92
        refine q_iload F dX5_answer_95 rfl ?_
        refine q_iconst F dX5_answer_97 hc_m1 ?_
        refine q_icmp_eq F 114 dX5_answer_98 rfl (fun c98 => ?_) (fun c98 => ?_)
        · exact absurd c98 (nI_nm1 (by omega))
        refine q_aload_n F 0 dX5_answer_101 rfl rfl ?_
        refine q_iload_n F 1 dX5_answer_102 rfl rfl ?_
        refine q_iload_n F 2 dX5_answer_103 rfl rfl ?_
        refine q_aload_n F 0 dX5_answer_104 rfl rfl ?_
        refine qg_X5_51 F (hM.1.2.1 18 rfl).1 hM.1.1 dX5_answer_105 ?_
        refine q_iload F dX5_answer_108 rfl ?_
        refine q_iald F (hM.1.2.1 18 rfl).2.1 (hM.1.2.1 18 rfl).2.2 rfl (show ci < 20 by omega) (by decide) dX5_answer_110 ?_
        refine q_ma 18 (M 18 ci) rfl hM (congrFun (aSee_f (by decide) n) ci) ?_
        refine q_callV_gv F (c_X5_sees (M := aSee (seeB M (sc 1) key key name port) (sc 1) M n) hM hn hn40 (sz_see hsz)) gX5_answer_X5_sees rfl hd_X5_sees ⟨Nat.le_of_ble_eq_true rfl, Nat.le_of_ble_eq_true rfl⟩ hM.1.1 rfl rfl rfl (Nat.le_of_ble_eq_true rfl) dX5_answer_111 ⟨Nat.le_of_ble_eq_true rfl, Nat.le_of_ble_eq_true rfl⟩ (fun S111 hp111 => ?_)
        obtain ⟨hM, hm111⟩ := hp111
        have hm := hm.trans hm111
        refine q_iload F dX5_answer_114 rfl ?_
        refine q_iconst F dX5_answer_116 hc_5 ?_
        refine q_icmp_ne F 143 dX5_answer_117 rfl (fun c117 => ?_) (fun c117 => ?_)
        · refine q_iload F dX5_answer_143 rfl ?_
          exact (q_reti F hr rfl dX5_answer_145 (Nat.le_of_ble_eq_true rfl) (Nat.le_of_ble_eq_true rfl) ⟨_, rfl, rfl, by first | exact ansM_see2 (sc := va_up sc 0 0) hn (Or.inl c79) hM | exact ansM_see2 (sc := va_up sc 0 0) hn (Or.inr c85) hM | exact ansM_new (sc := va_up sc 0 0) c117 c124 hlt hM | exact ansM_no (sc := va_up sc 0 0) key hn c79 c85 (n5A c117) (wkA c28 c36) hM | exact ansM_no (sc := va_up sc 0 0) key hn c79 c85 (n5A c117) (wkB c42) hM | exact ansM_no (sc := va_up sc 0 0) (-1) hn c79 c85 (n5A c117) (wkC c42 c36) hM | exact ansM_no (sc := va_up sc 0 0) (-1) hn c79 c85 (n5A c117) (wkD c42 c28) hM | exact ansM_no (sc := va_up sc 0 0) key hn c79 c85 (n5B c124) (wkA c28 c36) hM | exact ansM_no (sc := va_up sc 0 0) key hn c79 c85 (n5B c124) (wkB c42) hM | exact ansM_no (sc := va_up sc 0 0) (-1) hn c79 c85 (n5B c124) (wkC c42 c36) hM | exact ansM_no (sc := va_up sc 0 0) (-1) hn c79 c85 (n5B c124) (wkD c42 c28) hM | exact ansM_no (sc := va_up sc 0 0) key hn c79 c85 (n5C c133) (wkA c28 c36) hM | exact ansM_no (sc := va_up sc 0 0) key hn c79 c85 (n5C c133) (wkB c42) hM | exact ansM_no (sc := va_up sc 0 0) (-1) hn c79 c85 (n5C c133) (wkC c42 c36) hM | exact ansM_no (sc := va_up sc 0 0) (-1) hn c79 c85 (n5C c133) (wkD c42 c28) hM | exact xI (by decide) c28 c42 | exact xI (by decide) c79 c42 | exact xI (by decide) c85 c42 | exact xI (by decide) c79 c28 | exact xI (by decide) c85 c28 | exact xI (by decide) c117 c42 | exact xI (by decide) c36 c124, hm⟩)
        exact absurd c117 (by first | (rw [c79]; decide) | (rw [c85]; decide))
      exact absurd c55 (by decide)
    refine q_iconst F dX5_answer_45 hc_1 ?_
    refine q_goto F 50 dX5_answer_46 rfl ?_
    refine q_istore F dX5_answer_50 (by decide) rfl ?_
    refine q_aload_n F 0 dX5_answer_52 rfl rfl ?_
    refine q_iload F dX5_answer_53 rfl ?_
    refine q_if_eq F 62 dX5_answer_55 rfl (fun c55 => ?_) (fun c55 => ?_)
    · exact absurd c55 (by decide)
    refine q_iload_n F 3 dX5_answer_58 rfl rfl ?_
    refine q_goto F 63 dX5_answer_59 rfl ?_
    refine qp_X5_81 F hM.1.1 dX5_answer_63 ?_
    refine q_mF 29 hM hm (fun S63 hM hm => ?_)
    refine q_aload_n F 0 dX5_answer_66 rfl rfl ?_
    refine q_iload_n F 1 dX5_answer_67 rfl rfl ?_
    refine qp_X5_179 F hM.1.1 dX5_answer_68 ?_
    refine q_mF 30 hM hm (fun S68 hM hm => ?_)
    refine q_aload_n F 0 dX5_answer_71 rfl rfl ?_
    refine q_iload_n F 2 dX5_answer_72 rfl rfl ?_
    refine qp_X5_182 F hM.1.1 dX5_answer_73 ?_
    refine q_mF 31 hM hm (fun S73 hM hm => ?_)
    refine q_iload F dX5_answer_76 rfl ?_
    refine q_iconst F dX5_answer_78 hc_1 ?_
    refine q_icmp_eq F 88 dX5_answer_79 rfl (fun c79 => ?_) (fun c79 => ?_)
    · refine q_aload_n F 0 dX5_answer_88 rfl rfl ?_
      refine q_iload_n F 1 dX5_answer_89 rfl rfl ?_
      refine q_iload_n F 2 dX5_answer_90 rfl rfl ?_
      refine q_iload_n F 3 dX5_answer_91 rfl rfl ?_
      refine q_callV_gv F (c_X5_sees hM hn hn40 hsz) gX5_answer_X5_sees rfl hd_X5_sees ⟨Nat.le_of_ble_eq_true rfl, Nat.le_of_ble_eq_true rfl⟩ hM.1.1 rfl rfl rfl (Nat.le_of_ble_eq_true rfl) dX5_answer_92 ⟨Nat.le_of_ble_eq_true rfl, Nat.le_of_ble_eq_true rfl⟩ (fun S92 hp92 => ?_)
      obtain ⟨hM, hm92⟩ := hp92
      have hm := hm.trans hm92
      refine q_iload F dX5_answer_95 rfl ?_
      refine q_iconst F dX5_answer_97 hc_m1 ?_
      refine q_icmp_eq F 114 dX5_answer_98 rfl (fun c98 => ?_) (fun c98 => ?_)
      · exact absurd c98 (nI_nm1 (by omega))
      refine q_aload_n F 0 dX5_answer_101 rfl rfl ?_
      refine q_iload_n F 1 dX5_answer_102 rfl rfl ?_
      refine q_iload_n F 2 dX5_answer_103 rfl rfl ?_
      refine q_aload_n F 0 dX5_answer_104 rfl rfl ?_
      refine qg_X5_51 F (hM.1.2.1 18 rfl).1 hM.1.1 dX5_answer_105 ?_
      refine q_iload F dX5_answer_108 rfl ?_
      refine q_iald F (hM.1.2.1 18 rfl).2.1 (hM.1.2.1 18 rfl).2.2 rfl (show ci < 20 by omega) (by decide) dX5_answer_110 ?_
      refine q_ma 18 (M 18 ci) rfl hM (congrFun (aSee_f (by decide) n) ci) ?_
      refine q_callV_gv F (c_X5_sees (M := aSee (seeB M (sc 1) key key name port) (sc 1) M n) hM hn hn40 (sz_see hsz)) gX5_answer_X5_sees rfl hd_X5_sees ⟨Nat.le_of_ble_eq_true rfl, Nat.le_of_ble_eq_true rfl⟩ hM.1.1 rfl rfl rfl (Nat.le_of_ble_eq_true rfl) dX5_answer_111 ⟨Nat.le_of_ble_eq_true rfl, Nat.le_of_ble_eq_true rfl⟩ (fun S111 hp111 => ?_)
      obtain ⟨hM, hm111⟩ := hp111
      have hm := hm.trans hm111
      refine q_iload F dX5_answer_114 rfl ?_
      refine q_iconst F dX5_answer_116 hc_5 ?_
      refine q_icmp_ne F 143 dX5_answer_117 rfl (fun c117 => ?_) (fun c117 => ?_)
      · refine q_iload F dX5_answer_143 rfl ?_
        exact (q_reti F hr rfl dX5_answer_145 (Nat.le_of_ble_eq_true rfl) (Nat.le_of_ble_eq_true rfl) ⟨_, rfl, rfl, by first | exact ansM_see2 (sc := va_up sc 0 0) hn (Or.inl c79) hM | exact ansM_see2 (sc := va_up sc 0 0) hn (Or.inr c85) hM | exact ansM_new (sc := va_up sc 0 0) c117 c124 hlt hM | exact ansM_no (sc := va_up sc 0 0) key hn c79 c85 (n5A c117) (wkA c28 c36) hM | exact ansM_no (sc := va_up sc 0 0) key hn c79 c85 (n5A c117) (wkB c42) hM | exact ansM_no (sc := va_up sc 0 0) (-1) hn c79 c85 (n5A c117) (wkC c42 c36) hM | exact ansM_no (sc := va_up sc 0 0) (-1) hn c79 c85 (n5A c117) (wkD c42 c28) hM | exact ansM_no (sc := va_up sc 0 0) key hn c79 c85 (n5B c124) (wkA c28 c36) hM | exact ansM_no (sc := va_up sc 0 0) key hn c79 c85 (n5B c124) (wkB c42) hM | exact ansM_no (sc := va_up sc 0 0) (-1) hn c79 c85 (n5B c124) (wkC c42 c36) hM | exact ansM_no (sc := va_up sc 0 0) (-1) hn c79 c85 (n5B c124) (wkD c42 c28) hM | exact ansM_no (sc := va_up sc 0 0) key hn c79 c85 (n5C c133) (wkA c28 c36) hM | exact ansM_no (sc := va_up sc 0 0) key hn c79 c85 (n5C c133) (wkB c42) hM | exact ansM_no (sc := va_up sc 0 0) (-1) hn c79 c85 (n5C c133) (wkC c42 c36) hM | exact ansM_no (sc := va_up sc 0 0) (-1) hn c79 c85 (n5C c133) (wkD c42 c28) hM | exact xI (by decide) c28 c42 | exact xI (by decide) c79 c42 | exact xI (by decide) c85 c42 | exact xI (by decide) c79 c28 | exact xI (by decide) c85 c28 | exact xI (by decide) c117 c42 | exact xI (by decide) c36 c124, hm⟩)
      exact absurd c117 (by first | (rw [c79]; decide) | (rw [c85]; decide))
    refine q_iload F dX5_answer_82 rfl ?_
    refine q_iconst F dX5_answer_84 hc_2 ?_
    refine q_icmp_ne F 114 dX5_answer_85 rfl (fun c85 => ?_) (fun c85 => ?_)
    · refine q_iload F dX5_answer_114 rfl ?_
      refine q_iconst F dX5_answer_116 hc_5 ?_
      refine q_icmp_ne F 143 dX5_answer_117 rfl (fun c117 => ?_) (fun c117 => ?_)
      · refine q_iload F dX5_answer_143 rfl ?_
        exact (q_reti F hr rfl dX5_answer_145 (Nat.le_of_ble_eq_true rfl) (Nat.le_of_ble_eq_true rfl) ⟨_, rfl, rfl, by first | exact ansM_see2 (sc := va_up sc 0 0) hn (Or.inl c79) hM | exact ansM_see2 (sc := va_up sc 0 0) hn (Or.inr c85) hM | exact ansM_new (sc := va_up sc 0 0) c117 c124 hlt hM | exact ansM_no (sc := va_up sc 0 0) key hn c79 c85 (n5A c117) (wkA c28 c36) hM | exact ansM_no (sc := va_up sc 0 0) key hn c79 c85 (n5A c117) (wkB c42) hM | exact ansM_no (sc := va_up sc 0 0) (-1) hn c79 c85 (n5A c117) (wkC c42 c36) hM | exact ansM_no (sc := va_up sc 0 0) (-1) hn c79 c85 (n5A c117) (wkD c42 c28) hM | exact ansM_no (sc := va_up sc 0 0) key hn c79 c85 (n5B c124) (wkA c28 c36) hM | exact ansM_no (sc := va_up sc 0 0) key hn c79 c85 (n5B c124) (wkB c42) hM | exact ansM_no (sc := va_up sc 0 0) (-1) hn c79 c85 (n5B c124) (wkC c42 c36) hM | exact ansM_no (sc := va_up sc 0 0) (-1) hn c79 c85 (n5B c124) (wkD c42 c28) hM | exact ansM_no (sc := va_up sc 0 0) key hn c79 c85 (n5C c133) (wkA c28 c36) hM | exact ansM_no (sc := va_up sc 0 0) key hn c79 c85 (n5C c133) (wkB c42) hM | exact ansM_no (sc := va_up sc 0 0) (-1) hn c79 c85 (n5C c133) (wkC c42 c36) hM | exact ansM_no (sc := va_up sc 0 0) (-1) hn c79 c85 (n5C c133) (wkD c42 c28) hM | exact xI (by decide) c28 c42 | exact xI (by decide) c79 c42 | exact xI (by decide) c85 c42 | exact xI (by decide) c79 c28 | exact xI (by decide) c85 c28 | exact xI (by decide) c117 c42 | exact xI (by decide) c36 c124, hm⟩)
      refine q_aload_n F 0 dX5_answer_120 rfl rfl ?_
      refine qg_X5_7 F hM.1.1 dX5_answer_121 ?_
      refine q_mg 2 (sc 2) rfl hM rfl ?_
      refine q_if_ne F 143 dX5_answer_124 rfl (fun c124 => ?_) (fun c124 => ?_)
      · refine q_iload F dX5_answer_143 rfl ?_
        exact (q_reti F hr rfl dX5_answer_145 (Nat.le_of_ble_eq_true rfl) (Nat.le_of_ble_eq_true rfl) ⟨_, rfl, rfl, by first | exact ansM_see2 (sc := va_up sc 0 0) hn (Or.inl c79) hM | exact ansM_see2 (sc := va_up sc 0 0) hn (Or.inr c85) hM | exact ansM_new (sc := va_up sc 0 0) c117 c124 hlt hM | exact ansM_no (sc := va_up sc 0 0) key hn c79 c85 (n5A c117) (wkA c28 c36) hM | exact ansM_no (sc := va_up sc 0 0) key hn c79 c85 (n5A c117) (wkB c42) hM | exact ansM_no (sc := va_up sc 0 0) (-1) hn c79 c85 (n5A c117) (wkC c42 c36) hM | exact ansM_no (sc := va_up sc 0 0) (-1) hn c79 c85 (n5A c117) (wkD c42 c28) hM | exact ansM_no (sc := va_up sc 0 0) key hn c79 c85 (n5B c124) (wkA c28 c36) hM | exact ansM_no (sc := va_up sc 0 0) key hn c79 c85 (n5B c124) (wkB c42) hM | exact ansM_no (sc := va_up sc 0 0) (-1) hn c79 c85 (n5B c124) (wkC c42 c36) hM | exact ansM_no (sc := va_up sc 0 0) (-1) hn c79 c85 (n5B c124) (wkD c42 c28) hM | exact ansM_no (sc := va_up sc 0 0) key hn c79 c85 (n5C c133) (wkA c28 c36) hM | exact ansM_no (sc := va_up sc 0 0) key hn c79 c85 (n5C c133) (wkB c42) hM | exact ansM_no (sc := va_up sc 0 0) (-1) hn c79 c85 (n5C c133) (wkC c42 c36) hM | exact ansM_no (sc := va_up sc 0 0) (-1) hn c79 c85 (n5C c133) (wkD c42 c28) hM | exact xI (by decide) c28 c42 | exact xI (by decide) c79 c42 | exact xI (by decide) c85 c42 | exact xI (by decide) c79 c28 | exact xI (by decide) c85 c28 | exact xI (by decide) c117 c42 | exact xI (by decide) c36 c124, hm⟩)
      refine q_aload_n F 0 dX5_answer_127 rfl rfl ?_
      refine qg_X5_91 F hM.1.1 dX5_answer_128 ?_
      refine q_mg 4 (nI n) rfl hM hn ?_
      refine q_bipush (v := 40) F dX5_answer_131 (by decide) ?_
      refine q_icmp_ge F 143 dX5_answer_133 rfl (fun c133 => ?_) (fun c133 => ?_)
      · refine q_iload F dX5_answer_143 rfl ?_
        exact (q_reti F hr rfl dX5_answer_145 (Nat.le_of_ble_eq_true rfl) (Nat.le_of_ble_eq_true rfl) ⟨_, rfl, rfl, by first | exact ansM_see2 (sc := va_up sc 0 0) hn (Or.inl c79) hM | exact ansM_see2 (sc := va_up sc 0 0) hn (Or.inr c85) hM | exact ansM_new (sc := va_up sc 0 0) c117 c124 hlt hM | exact ansM_no (sc := va_up sc 0 0) key hn c79 c85 (n5A c117) (wkA c28 c36) hM | exact ansM_no (sc := va_up sc 0 0) key hn c79 c85 (n5A c117) (wkB c42) hM | exact ansM_no (sc := va_up sc 0 0) (-1) hn c79 c85 (n5A c117) (wkC c42 c36) hM | exact ansM_no (sc := va_up sc 0 0) (-1) hn c79 c85 (n5A c117) (wkD c42 c28) hM | exact ansM_no (sc := va_up sc 0 0) key hn c79 c85 (n5B c124) (wkA c28 c36) hM | exact ansM_no (sc := va_up sc 0 0) key hn c79 c85 (n5B c124) (wkB c42) hM | exact ansM_no (sc := va_up sc 0 0) (-1) hn c79 c85 (n5B c124) (wkC c42 c36) hM | exact ansM_no (sc := va_up sc 0 0) (-1) hn c79 c85 (n5B c124) (wkD c42 c28) hM | exact ansM_no (sc := va_up sc 0 0) key hn c79 c85 (n5C c133) (wkA c28 c36) hM | exact ansM_no (sc := va_up sc 0 0) key hn c79 c85 (n5C c133) (wkB c42) hM | exact ansM_no (sc := va_up sc 0 0) (-1) hn c79 c85 (n5C c133) (wkC c42 c36) hM | exact ansM_no (sc := va_up sc 0 0) (-1) hn c79 c85 (n5C c133) (wkD c42 c28) hM | exact xI (by decide) c28 c42 | exact xI (by decide) c79 c42 | exact xI (by decide) c85 c42 | exact xI (by decide) c79 c28 | exact xI (by decide) c85 c28 | exact xI (by decide) c117 c42 | exact xI (by decide) c36 c124, hm⟩)
      have hlt : n < 40 := y40 hn40 c133
      refine q_aload_n F 0 dX5_answer_136 rfl rfl ?_
      refine q_iload_n F 1 dX5_answer_137 rfl rfl ?_
      refine q_iload_n F 2 dX5_answer_138 rfl rfl ?_
      refine q_iload_n F 3 dX5_answer_139 rfl rfl ?_
      refine q_callV_gv F (c_X5_trusts hM hn hlt) gX5_answer_X5_trusts rfl hd_X5_trusts ⟨Nat.le_of_ble_eq_true rfl, Nat.le_of_ble_eq_true rfl⟩ hM.1.1 rfl rfl rfl (Nat.le_of_ble_eq_true rfl) dX5_answer_140 ⟨Nat.le_of_ble_eq_true rfl, Nat.le_of_ble_eq_true rfl⟩ (fun S140 hp140 => ?_)
      obtain ⟨hM, hm140⟩ := hp140
      have hm := hm.trans hm140
      refine q_iload F dX5_answer_143 rfl ?_
      exact (q_reti F hr rfl dX5_answer_145 (Nat.le_of_ble_eq_true rfl) (Nat.le_of_ble_eq_true rfl) ⟨_, rfl, rfl, by first | exact ansM_see2 (sc := va_up sc 0 0) hn (Or.inl c79) hM | exact ansM_see2 (sc := va_up sc 0 0) hn (Or.inr c85) hM | exact ansM_new (sc := va_up sc 0 0) c117 c124 hlt hM | exact ansM_no (sc := va_up sc 0 0) key hn c79 c85 (n5A c117) (wkA c28 c36) hM | exact ansM_no (sc := va_up sc 0 0) key hn c79 c85 (n5A c117) (wkB c42) hM | exact ansM_no (sc := va_up sc 0 0) (-1) hn c79 c85 (n5A c117) (wkC c42 c36) hM | exact ansM_no (sc := va_up sc 0 0) (-1) hn c79 c85 (n5A c117) (wkD c42 c28) hM | exact ansM_no (sc := va_up sc 0 0) key hn c79 c85 (n5B c124) (wkA c28 c36) hM | exact ansM_no (sc := va_up sc 0 0) key hn c79 c85 (n5B c124) (wkB c42) hM | exact ansM_no (sc := va_up sc 0 0) (-1) hn c79 c85 (n5B c124) (wkC c42 c36) hM | exact ansM_no (sc := va_up sc 0 0) (-1) hn c79 c85 (n5B c124) (wkD c42 c28) hM | exact ansM_no (sc := va_up sc 0 0) key hn c79 c85 (n5C c133) (wkA c28 c36) hM | exact ansM_no (sc := va_up sc 0 0) key hn c79 c85 (n5C c133) (wkB c42) hM | exact ansM_no (sc := va_up sc 0 0) (-1) hn c79 c85 (n5C c133) (wkC c42 c36) hM | exact ansM_no (sc := va_up sc 0 0) (-1) hn c79 c85 (n5C c133) (wkD c42 c28) hM | exact xI (by decide) c28 c42 | exact xI (by decide) c79 c42 | exact xI (by decide) c85 c42 | exact xI (by decide) c79 c28 | exact xI (by decide) c85 c28 | exact xI (by decide) c117 c42 | exact xI (by decide) c36 c124, hm⟩)
    refine q_aload_n F 0 dX5_answer_88 rfl rfl ?_
    refine q_iload_n F 1 dX5_answer_89 rfl rfl ?_
    refine q_iload_n F 2 dX5_answer_90 rfl rfl ?_
    refine q_iload_n F 3 dX5_answer_91 rfl rfl ?_
    refine q_callV_gv F (c_X5_sees hM hn hn40 hsz) gX5_answer_X5_sees rfl hd_X5_sees ⟨Nat.le_of_ble_eq_true rfl, Nat.le_of_ble_eq_true rfl⟩ hM.1.1 rfl rfl rfl (Nat.le_of_ble_eq_true rfl) dX5_answer_92 ⟨Nat.le_of_ble_eq_true rfl, Nat.le_of_ble_eq_true rfl⟩ (fun S92 hp92 => ?_)
    obtain ⟨hM, hm92⟩ := hp92
    have hm := hm.trans hm92
    refine q_iload F dX5_answer_95 rfl ?_
    refine q_iconst F dX5_answer_97 hc_m1 ?_
    refine q_icmp_eq F 114 dX5_answer_98 rfl (fun c98 => ?_) (fun c98 => ?_)
    · exact absurd c98 (nI_nm1 (by omega))
    refine q_aload_n F 0 dX5_answer_101 rfl rfl ?_
    refine q_iload_n F 1 dX5_answer_102 rfl rfl ?_
    refine q_iload_n F 2 dX5_answer_103 rfl rfl ?_
    refine q_aload_n F 0 dX5_answer_104 rfl rfl ?_
    refine qg_X5_51 F (hM.1.2.1 18 rfl).1 hM.1.1 dX5_answer_105 ?_
    refine q_iload F dX5_answer_108 rfl ?_
    refine q_iald F (hM.1.2.1 18 rfl).2.1 (hM.1.2.1 18 rfl).2.2 rfl (show ci < 20 by omega) (by decide) dX5_answer_110 ?_
    refine q_ma 18 (M 18 ci) rfl hM (congrFun (aSee_f (by decide) n) ci) ?_
    refine q_callV_gv F (c_X5_sees (M := aSee (seeB M (sc 1) key key name port) (sc 1) M n) hM hn hn40 (sz_see hsz)) gX5_answer_X5_sees rfl hd_X5_sees ⟨Nat.le_of_ble_eq_true rfl, Nat.le_of_ble_eq_true rfl⟩ hM.1.1 rfl rfl rfl (Nat.le_of_ble_eq_true rfl) dX5_answer_111 ⟨Nat.le_of_ble_eq_true rfl, Nat.le_of_ble_eq_true rfl⟩ (fun S111 hp111 => ?_)
    obtain ⟨hM, hm111⟩ := hp111
    have hm := hm.trans hm111
    refine q_iload F dX5_answer_114 rfl ?_
    refine q_iconst F dX5_answer_116 hc_5 ?_
    refine q_icmp_ne F 143 dX5_answer_117 rfl (fun c117 => ?_) (fun c117 => ?_)
    · refine q_iload F dX5_answer_143 rfl ?_
      exact (q_reti F hr rfl dX5_answer_145 (Nat.le_of_ble_eq_true rfl) (Nat.le_of_ble_eq_true rfl) ⟨_, rfl, rfl, by first | exact ansM_see2 (sc := va_up sc 0 0) hn (Or.inl c79) hM | exact ansM_see2 (sc := va_up sc 0 0) hn (Or.inr c85) hM | exact ansM_new (sc := va_up sc 0 0) c117 c124 hlt hM | exact ansM_no (sc := va_up sc 0 0) key hn c79 c85 (n5A c117) (wkA c28 c36) hM | exact ansM_no (sc := va_up sc 0 0) key hn c79 c85 (n5A c117) (wkB c42) hM | exact ansM_no (sc := va_up sc 0 0) (-1) hn c79 c85 (n5A c117) (wkC c42 c36) hM | exact ansM_no (sc := va_up sc 0 0) (-1) hn c79 c85 (n5A c117) (wkD c42 c28) hM | exact ansM_no (sc := va_up sc 0 0) key hn c79 c85 (n5B c124) (wkA c28 c36) hM | exact ansM_no (sc := va_up sc 0 0) key hn c79 c85 (n5B c124) (wkB c42) hM | exact ansM_no (sc := va_up sc 0 0) (-1) hn c79 c85 (n5B c124) (wkC c42 c36) hM | exact ansM_no (sc := va_up sc 0 0) (-1) hn c79 c85 (n5B c124) (wkD c42 c28) hM | exact ansM_no (sc := va_up sc 0 0) key hn c79 c85 (n5C c133) (wkA c28 c36) hM | exact ansM_no (sc := va_up sc 0 0) key hn c79 c85 (n5C c133) (wkB c42) hM | exact ansM_no (sc := va_up sc 0 0) (-1) hn c79 c85 (n5C c133) (wkC c42 c36) hM | exact ansM_no (sc := va_up sc 0 0) (-1) hn c79 c85 (n5C c133) (wkD c42 c28) hM | exact xI (by decide) c28 c42 | exact xI (by decide) c79 c42 | exact xI (by decide) c85 c42 | exact xI (by decide) c79 c28 | exact xI (by decide) c85 c28 | exact xI (by decide) c117 c42 | exact xI (by decide) c36 c124, hm⟩)
    exact absurd c117 (by first | (rw [c79]; decide) | (rw [c85]; decide))
  exact absurd c9 (by decide)

