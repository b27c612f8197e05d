set_option maxHeartbeats 4000000 in
set_option maxRecDepth 100000 in
theorem c_X4_judgementOf {l : Launch} {g : hG} {X : va_W} {S : hS} {h bk ca sa : Nat} {ad pa : Nat → Nat} {sc : Nat → Int32} {M : Nat → Nat → Int32} {n nc ns : Nat} (hG : cG S h bk ca sa ad pa) (hC : cC S h ca sa ad pa sc M n nc ns) {cr ci : Nat} (hR : crR S cr M ci) {name port key : Int32} : hMet l yX4_judgementOf wsX4_judgementOf rm_X4_judgementOf g X S [.ref h, .int name, .int port, .int key, .ref cr] (pI (jo (sc 1) M n ns name port key ci) S) := by
  refine h_start (maxL := 6) (ret := (some .int)) (by decide) rfl (Nat.le_of_ble_eq_true rfl) ?_
  intro p e s m args below meth c F hr hinit
  obtain ⟨hR0, r18, r19, -⟩ := id hR
  have e18 : jb (sc 1) M name port key (sF S 0 cr) n = jb (sc 1) M name port key (M 18 ci) n := by rw [r18]
  refine q_aload_n F 0 dX4_judgementOf_0 rfl rfl ?_
  refine q_iload_n F 1 dX4_judgementOf_1 rfl rfl ?_
  refine q_iload_n F 2 dX4_judgementOf_2 rfl rfl ?_
  refine q_iload_n F 3 dX4_judgementOf_3 rfl rfl ?_
  refine q_aload F dX4_judgementOf_4 rfl ?_
  refine q_callS_i F (c_X4_authorityOf hR.1) gX4_judgementOf_X4_authorityOf rfl hd_X4_authorityOf ⟨Nat.le_of_ble_eq_true rfl, Nat.le_of_ble_eq_true rfl⟩ rfl rfl (Nat.le_of_ble_eq_true rfl) dX4_judgementOf_6 ⟨Nat.le_of_ble_eq_true rfl, Nat.le_of_ble_eq_true rfl⟩ ?_
  refine q_callV_i F (c_X4_judgementByLines hG hC) gX4_judgementOf_X4_judgementByLines rfl hd_X4_judgementByLines ⟨Nat.le_of_ble_eq_true rfl, Nat.le_of_ble_eq_true rfl⟩ hG.1 rfl rfl rfl (Nat.le_of_ble_eq_true rfl) dX4_judgementOf_9 ⟨Nat.le_of_ble_eq_true rfl, Nat.le_of_ble_eq_true rfl⟩ ?_
  refine q_istore F dX4_judgementOf_12 (by decide) rfl ?_
  refine q_iload F dX4_judgementOf_14 rfl ?_
  refine q_if_eq F 46 dX4_judgementOf_16 rfl (fun c16 => ?_) (fun c16 => ?_)
  · refine q_iload F dX4_judgementOf_46 rfl ?_
    exact (q_reti F hr rfl dX4_judgementOf_48 (Nat.le_of_ble_eq_true rfl) (Nat.le_of_ble_eq_true rfl) ⟨congrArg (fun z => some (Value.int z)) (by unfold jo; rw [← r19]; first | (rw [if_neg (fun z => z.1 (by rw [← e18]; exact c16))]; exact e18) | (rw [if_neg (fun z => c30 z.2.1)]; exact e18) | (rw [if_neg (fun z => by rw [z.2.2] at c41; exact absurd c41 (by decide))]; exact e18) | (rw [if_pos ⟨fun z => c16 (by rw [e18]; exact z), c30, b2_n0 c41⟩])), rfl⟩)
  refine q_aload F dX4_judgementOf_19 rfl ?_
  refine q_ifnull F dX4_judgementOf_21 ?_
  refine q_aload F dX4_judgementOf_24 rfl ?_
  refine qg_X4_200 F hR.1 dX4_judgementOf_26 ?_
  refine q_iload_n F 3 dX4_judgementOf_29 rfl rfl ?_
  refine q_icmp_ne F 46 dX4_judgementOf_30 rfl (fun c30 => ?_) (fun c30 => ?_)
  · refine q_iload F dX4_judgementOf_46 rfl ?_
    exact (q_reti F hr rfl dX4_judgementOf_48 (Nat.le_of_ble_eq_true rfl) (Nat.le_of_ble_eq_true rfl) ⟨congrArg (fun z => some (Value.int z)) (by unfold jo; rw [← r19]; first | (rw [if_neg (fun z => z.1 (by rw [← e18]; exact c16))]; exact e18) | (rw [if_neg (fun z => c30 z.2.1)]; exact e18) | (rw [if_neg (fun z => by rw [z.2.2] at c41; exact absurd c41 (by decide))]; exact e18) | (rw [if_pos ⟨fun z => c16 (by rw [e18]; exact z), c30, b2_n0 c41⟩])), rfl⟩)
  refine q_aload_n F 0 dX4_judgementOf_33 rfl rfl ?_
  refine q_aload F dX4_judgementOf_34 rfl ?_
  refine q_iload_n F 1 dX4_judgementOf_36 rfl rfl ?_
  refine q_iload_n F 2 dX4_judgementOf_37 rfl rfl ?_
  refine q_callV_i F (c_X4_isGood hG hC hR) gX4_judgementOf_X4_isGood rfl hd_X4_isGood ⟨Nat.le_of_ble_eq_true rfl, Nat.le_of_ble_eq_true rfl⟩ hG.1 rfl rfl rfl (Nat.le_of_ble_eq_true rfl) dX4_judgementOf_38 ⟨Nat.le_of_ble_eq_true rfl, Nat.le_of_ble_eq_true rfl⟩ ?_
  refine q_if_eq F 46 dX4_judgementOf_41 rfl (fun c41 => ?_) (fun c41 => ?_)
  · refine q_iload F dX4_judgementOf_46 rfl ?_
    exact (q_reti F hr rfl dX4_judgementOf_48 (Nat.le_of_ble_eq_true rfl) (Nat.le_of_ble_eq_true rfl) ⟨congrArg (fun z => some (Value.int z)) (by unfold jo; rw [← r19]; first | (rw [if_neg (fun z => z.1 (by rw [← e18]; exact c16))]; exact e18) | (rw [if_neg (fun z => c30 z.2.1)]; exact e18) | (rw [if_neg (fun z => by rw [z.2.2] at c41; exact absurd c41 (by decide))]; exact e18) | (rw [if_pos ⟨fun z => c16 (by rw [e18]; exact z), c30, b2_n0 c41⟩])), rfl⟩)
  refine q_iconst F dX4_judgementOf_44 hc_1 ?_
  exact (q_reti F hr rfl dX4_judgementOf_45 (Nat.le_of_ble_eq_true rfl) (Nat.le_of_ble_eq_true rfl) ⟨congrArg (fun z => some (Value.int z)) (by unfold jo; rw [← r19]; first | (rw [if_neg (fun z => z.1 (by rw [← e18]; exact c16))]; exact e18) | (rw [if_neg (fun z => c30 z.2.1)]; exact e18) | (rw [if_neg (fun z => by rw [z.2.2] at c41; exact absurd c41 (by decide))]; exact e18) | (rw [if_pos ⟨fun z => c16 (by rw [e18]; exact z), c30, b2_n0 c41⟩])), rfl⟩)

set_option maxHeartbeats 4000000 in
set_option maxRecDepth 100000 in
theorem c_X4_judgementOf_n {l : Launch} {g : hG} {X : va_W} {S : hS} {h bk ca sa : Nat} {ad pa : Nat → Nat} {sc : Nat → Int32} {M : Nat → Nat → Int32} {n nc ns : Nat} (hG : cG S h bk ca sa ad pa) (hC : cC S h ca sa ad pa sc M n nc ns) {name port key : Int32} : hMet l yX4_judgementOf wsX4_judgementOf rm_X4_judgementOf g X S [.ref h, .int name, .int port, .int key, .null] (pI (jb (sc 1) M name port key (-1) n) S) := by
  refine h_start (maxL := 6) (ret := (some .int)) (by decide) rfl (Nat.le_of_ble_eq_true rfl) ?_
  intro p e s m args below meth c F hr hinit
  refine q_aload_n F 0 dX4_judgementOf_0 rfl rfl ?_
  refine q_iload_n F 1 dX4_judgementOf_1 rfl rfl ?_
  refine q_iload_n F 2 dX4_judgementOf_2 rfl rfl ?_
  refine q_iload_n F 3 dX4_judgementOf_3 rfl rfl ?_
  refine q_aloadN F dX4_judgementOf_4 rfl ?_
  refine q_callS_i F (c_X4_authorityOf_n) gX4_judgementOf_X4_authorityOf rfl hd_X4_authorityOf ⟨Nat.le_of_ble_eq_true rfl, Nat.le_of_ble_eq_true rfl⟩ rfl rfl (Nat.le_of_ble_eq_true rfl) dX4_judgementOf_6 ⟨Nat.le_of_ble_eq_true rfl, Nat.le_of_ble_eq_true rfl⟩ ?_
  refine q_callV_i F (c_X4_judgementByLines hG hC) gX4_judgementOf_X4_judgementByLines rfl hd_X4_judgementByLines ⟨Nat.le_of_ble_eq_true rfl, Nat.le_of_ble_eq_true rfl⟩ hG.1 rfl rfl rfl (Nat.le_of_ble_eq_true rfl) dX4_judgementOf_9 ⟨Nat.le_of_ble_eq_true rfl, Nat.le_of_ble_eq_true rfl⟩ ?_
  refine q_istore F dX4_judgementOf_12 (by decide) rfl ?_
  refine q_iload F dX4_judgementOf_14 rfl ?_
  refine q_if_eq F 46 dX4_judgementOf_16 rfl (fun c16 => ?_) (fun c16 => ?_)
  · refine q_iload F dX4_judgementOf_46 rfl ?_
    exact (q_reti F hr rfl dX4_judgementOf_48 (Nat.le_of_ble_eq_true rfl) (Nat.le_of_ble_eq_true rfl) ⟨rfl, rfl⟩)
  refine q_aloadN F dX4_judgementOf_19 rfl ?_
  refine q_ifnullN F 46 dX4_judgementOf_21 rfl ?_
  refine q_iload F dX4_judgementOf_46 rfl ?_
  exact (q_reti F hr rfl dX4_judgementOf_48 (Nat.le_of_ble_eq_true rfl) (Nat.le_of_ble_eq_true rfl) ⟨rfl, rfl⟩)

set_option maxHeartbeats 4000000 in
set_option maxRecDepth 100000 in
theorem c_X4_requireWithin {l : Launch} {g : hG} {X : va_W} {S : hS} (hst : l.stackTraces = false) {v lo hi : Int32} : hMetX l yX4_requireWithin wsX4_requireWithin rm_X4_requireWithin g X S [.int v, .int lo, .int hi] (pXV S (inR v lo hi = true)) (pE S (pe1 (inR v lo hi) xIA)) := by
  refine h_startX (maxL := 3) (ret := none) (by decide) rfl (Nat.le_of_ble_eq_true rfl) ?_
  intro p e s m args below meth c F hr ht
  refine q_iload_n F 0 dX4_requireWithin_0 rfl rfl ?_
  refine q_iload_n F 1 dX4_requireWithin_1 rfl rfl ?_
  refine q_icmp_lt F 10 dX4_requireWithin_2 rfl (fun c2 => ?_) (fun c2 => ?_)
  · exact qt_X4_168 F hst ht dX4_requireWithin_10 dX4_requireWithin_13 dX4_requireWithin_14 dX4_requireWithin_16 dX4_requireWithin_19 ⟨Nat.le_of_ble_eq_true rfl, Nat.le_of_ble_eq_true rfl⟩ ⟨Nat.le_of_ble_eq_true rfl, Nat.le_of_ble_eq_true rfl⟩ (Nat.le_of_ble_eq_true rfl) (Nat.le_of_ble_eq_true rfl) ⟨rfl, by first | exact inR_f1 c2 | exact inR_f2 c7, rfl⟩
  refine q_iload_n F 0 dX4_requireWithin_5 rfl rfl ?_
  refine q_iload_n F 2 dX4_requireWithin_6 rfl rfl ?_
  refine q_icmp_le F 20 dX4_requireWithin_7 rfl (fun c7 => ?_) (fun c7 => ?_)
  · exact q_x (q_retv F hr dX4_requireWithin_20 (Nat.le_of_ble_eq_true rfl) (Nat.le_of_ble_eq_true rfl) ⟨rfl, rfl, inR_t c2 c7⟩)
  exact qt_X4_168 F hst ht dX4_requireWithin_10 dX4_requireWithin_13 dX4_requireWithin_14 dX4_requireWithin_16 dX4_requireWithin_19 ⟨Nat.le_of_ble_eq_true rfl, Nat.le_of_ble_eq_true rfl⟩ ⟨Nat.le_of_ble_eq_true rfl, Nat.le_of_ble_eq_true rfl⟩ (Nat.le_of_ble_eq_true rfl) (Nat.le_of_ble_eq_true rfl) ⟨rfl, by first | exact inR_f1 c2 | exact inR_f2 c7, rfl⟩

set_option maxHeartbeats 4000000 in
set_option maxRecDepth 100000 in
theorem c_X4_requireKey {l : Launch} {g : hG} {X : va_W} {S : hS} (hst : l.stackTraces = false) {key : Int32} : hMetX l yX4_requireKey wsX4_requireKey rm_X4_requireKey g X S [.int key] (pXV S (okK key = true)) (pE S (pe1 (okK key) xIA)) := by
  refine h_startX (maxL := 1) (ret := none) (by decide) rfl (Nat.le_of_ble_eq_true rfl) ?_
  intro p e s m args below meth c F hr ht
  refine q_iload_n F 0 dX4_requireKey_0 rfl rfl ?_
  refine q_iconst F dX4_requireKey_1 hc_0 ?_
  refine q_sipush (v := 199) F dX4_requireKey_2 (by decide) ?_
  refine q_callSX_v F (c_X4_requireWithin hst) gX4_requireKey_X4_requireWithin rfl hd_X4_requireWithin ⟨Nat.le_of_ble_eq_true rfl, Nat.le_of_ble_eq_true rfl⟩ rfl rfl (Nat.le_of_ble_eq_true rfl) dX4_requireKey_5 ⟨Nat.le_of_ble_eq_true rfl, Nat.le_of_ble_eq_true rfl⟩ (fun E hE => q_out F ht (Nat.le_of_ble_eq_true rfl) (Nat.le_of_ble_eq_true rfl) ⟨rfl, hE⟩) (fun k5 => ?_)
  exact q_x (q_retv F hr dX4_requireKey_8 (Nat.le_of_ble_eq_true rfl) (Nat.le_of_ble_eq_true rfl) ⟨rfl, rfl, k5⟩)

set_option maxHeartbeats 4000000 in
set_option maxRecDepth 100000 in
theorem c_X4_requireNameAndPort {l : Launch} {g : hG} {X : va_W} {S : hS} (hst : l.stackTraces = false) {name port : Int32} : hMetX l yX4_requireNameAndPort wsX4_requireNameAndPort rm_X4_requireNameAndPort g X S [.int name, .int port] (pXV S (okNP name port = true)) (pE S (pe1 (okNP name port) xIA)) := by
  refine h_startX (maxL := 2) (ret := none) (by decide) rfl (Nat.le_of_ble_eq_true rfl) ?_
  intro p e s m args below meth c F hr ht
  refine q_iload_n F 0 dX4_requireNameAndPort_0 rfl rfl ?_
  refine q_iconst F dX4_requireNameAndPort_1 hc_0 ?_
  refine q_sipush (v := 9999) F dX4_requireNameAndPort_2 (by decide) ?_
  refine q_callSX_v F (c_X4_requireWithin hst) gX4_requireNameAndPort_X4_requireWithin rfl hd_X4_requireWithin ⟨Nat.le_of_ble_eq_true rfl, Nat.le_of_ble_eq_true rfl⟩ rfl rfl (Nat.le_of_ble_eq_true rfl) dX4_requireNameAndPort_5 ⟨Nat.le_of_ble_eq_true rfl, Nat.le_of_ble_eq_true rfl⟩ (fun E hE => q_out F ht (Nat.le_of_ble_eq_true rfl) (Nat.le_of_ble_eq_true rfl) ⟨rfl, (by unfold okNP okN; rw [hE.1]; rfl), hE.2⟩) (fun k5 => ?_)
  refine q_iload_n F 1 dX4_requireNameAndPort_8 rfl rfl ?_
  refine q_iconst F dX4_requireNameAndPort_9 hc_0 ?_
  refine q_iconst F dX4_requireNameAndPort_10 hc_3 ?_
  refine q_callSX_v F (c_X4_requireWithin hst) gX4_requireNameAndPort_X4_requireWithin rfl hd_X4_requireWithin ⟨Nat.le_of_ble_eq_true rfl, Nat.le_of_ble_eq_true rfl⟩ rfl rfl (Nat.le_of_ble_eq_true rfl) dX4_requireNameAndPort_11 ⟨Nat.le_of_ble_eq_true rfl, Nat.le_of_ble_eq_true rfl⟩ (fun E hE => q_out F ht (Nat.le_of_ble_eq_true rfl) (Nat.le_of_ble_eq_true rfl) ⟨rfl, (by unfold okNP okP; rw [hE.1, Bool.and_false]), hE.2⟩) (fun k11 => ?_)
  exact q_x (q_retv F hr dX4_requireNameAndPort_14 (Nat.le_of_ble_eq_true rfl) (Nat.le_of_ble_eq_true rfl) ⟨rfl, rfl, by unfold okNP okN okP; rw [k5, k11]; rfl⟩)

set_option maxHeartbeats 4000000 in
set_option maxRecDepth 100000 in
theorem c_X4_lineAt {l : Launch} {g : hG} {X : va_W} {S : hS} (hst : l.stackTraces = false) {h bk ca sa : Nat} {ad pa : Nat → Nat} {sc : Nat → Int32} {M : Nat → Nat → Int32} {n nc ns : Nat} (hG : cG S h bk ca sa ad pa) (hC : cC S h ca sa ad pa sc M n nc ns) {i : Int32} : hMetX l yX4_lineAt wsX4_lineAt rm_X4_lineAt g X S [.ref h, .int i] (pXA (ad i.toNatClampNeg) S (inL i n = true)) (pE S (pe1 (inL i n) xIO)) := by
  refine h_startX (maxL := 2) (ret := (some (.object "HostKeyring$Line"))) (by decide) rfl (Nat.le_of_ble_eq_true rfl) ?_
  intro p e s m args below meth c F hr ht
  refine q_iload_n F 1 dX4_lineAt_0 rfl rfl ?_
  refine q_if_lt F 12 dX4_lineAt_1 rfl (fun c1 => ?_) (fun c1 => ?_)
  · exact qt_X4_172 F hst ht dX4_lineAt_12 dX4_lineAt_15 dX4_lineAt_16 dX4_lineAt_18 dX4_lineAt_21 ⟨Nat.le_of_ble_eq_true rfl, Nat.le_of_ble_eq_true rfl⟩ ⟨Nat.le_of_ble_eq_true rfl, Nat.le_of_ble_eq_true rfl⟩ (Nat.le_of_ble_eq_true rfl) (Nat.le_of_ble_eq_true rfl) ⟨rfl, by first | exact inL_f1 c1 | exact inL_f2 (by rw [← hC.1.1]; exact c9), rfl⟩
  refine q_iload_n F 1 dX4_lineAt_4 rfl rfl ?_
  refine q_aload_n F 0 dX4_lineAt_5 rfl rfl ?_
  refine qg_X4_47 F hG.1 dX4_lineAt_6 ?_
  refine q_icmp_lt F 22 dX4_lineAt_9 rfl (fun c9 => ?_) (fun c9 => ?_)
  · have hn40 := hC.1.2.2
    have hin : inL i n = true := inL_t c1 (by rw [← hC.1.1]; exact c9)
    obtain ⟨j, hj, rfl⟩ := inL_get hin (by omega)
    have hcl : (nI j).toNatClampNeg = j := nI_clamp (by omega)
    have hi40 : j < 40 := by omega
    refine q_aload_n F 0 dX4_lineAt_22 rfl rfl ?_
    refine qg_X4_11 F hG.2.1.1 hG.1 dX4_lineAt_23 ?_
    refine q_iload_n F 1 dX4_lineAt_26 rfl rfl ?_
    refine q_aald_l F hG.2.1.2.1 hG.2.1.2.2 rfl hi40 (by decide) (hG.2.2.2.2.1 _ hi40).1 dX4_lineAt_27 ?_
    exact q_x (q_reta F hr (Or.inl ⟨_, rfl⟩) (Or.inr ⟨_, rfl⟩) dX4_lineAt_28 (Nat.le_of_ble_eq_true rfl) (Nat.le_of_ble_eq_true rfl) ⟨by rw [hcl], rfl, hin⟩)
  exact qt_X4_172 F hst ht dX4_lineAt_12 dX4_lineAt_15 dX4_lineAt_16 dX4_lineAt_18 dX4_lineAt_21 ⟨Nat.le_of_ble_eq_true rfl, Nat.le_of_ble_eq_true rfl⟩ ⟨Nat.le_of_ble_eq_true rfl, Nat.le_of_ble_eq_true rfl⟩ (Nat.le_of_ble_eq_true rfl) (Nat.le_of_ble_eq_true rfl) ⟨rfl, by first | exact inL_f1 c1 | exact inL_f2 (by rw [← hC.1.1]; exact c9), rfl⟩

set_option maxHeartbeats 4000000 in
set_option maxRecDepth 100000 in
theorem c_X4_certificateAt {l : Launch} {g : hG} {X : va_W} {S : hS} (hst : l.stackTraces = false) {h bk ca sa : Nat} {ad pa : Nat → Nat} {sc : Nat → Int32} {M : Nat → Nat → Int32} {n nc ns : Nat} (hG : cG S h bk ca sa ad pa) (hC : cC S h ca sa ad pa sc M n nc ns) {i : Int32} (hi : ¬ i = -1) : hMetX l yX4_certificateAt wsX4_certificateAt rm_X4_certificateAt g X S [.ref h, .int i] (pXA ((sB S ca i.toNatClampNeg).getD 0) S (inL i nc = true)) (pE S (pe1 (inL i nc) xIO)) := by
  refine h_startX (maxL := 2) (ret := (some (.object "HostKeyring$Certificate"))) (by decide) rfl (Nat.le_of_ble_eq_true rfl) ?_
  intro p e s m args below meth c F hr ht
  refine q_iload_n F 1 dX4_certificateAt_0 rfl rfl ?_
  refine q_iconst F dX4_certificateAt_1 hc_m1 ?_
  refine q_icmp_ne F 7 dX4_certificateAt_2 rfl (fun c2 => ?_) (fun c2 => ?_)
  · refine q_iload_n F 1 dX4_certificateAt_7 rfl rfl ?_
    refine q_if_lt F 19 dX4_certificateAt_8 rfl (fun c8 => ?_) (fun c8 => ?_)
    · exact qt_X4_175 F hst ht dX4_certificateAt_19 dX4_certificateAt_22 dX4_certificateAt_23 dX4_certificateAt_25 dX4_certificateAt_28 ⟨Nat.le_of_ble_eq_true rfl, Nat.le_of_ble_eq_true rfl⟩ ⟨Nat.le_of_ble_eq_true rfl, Nat.le_of_ble_eq_true rfl⟩ (Nat.le_of_ble_eq_true rfl) (Nat.le_of_ble_eq_true rfl) ⟨rfl, by first | exact inL_f1 c8 | exact inL_f2 (by rw [← hC.2.2.1.1]; exact c16), rfl⟩
    refine q_iload_n F 1 dX4_certificateAt_11 rfl rfl ?_
    refine q_aload_n F 0 dX4_certificateAt_12 rfl rfl ?_
    refine qg_X4_71 F hG.1 dX4_certificateAt_13 ?_
    refine q_icmp_lt F 29 dX4_certificateAt_16 rfl (fun c16 => ?_) (fun c16 => ?_)
    · have hn20 := hC.2.2.1.2.2
      have hin : inL i nc = true := inL_t c8 (by rw [← hC.2.2.1.1]; exact c16)
      obtain ⟨j, hj, rfl⟩ := inL_get hin (by omega)
      have hcl : (nI j).toNatClampNeg = j := nI_clamp (by omega)
      obtain ⟨z, hz, hR⟩ := hC.2.2.2.2.2.2.1 j hj
      refine q_aload_n F 0 dX4_certificateAt_29 rfl rfl ?_
      refine qg_X4_17 F hG.2.2.1.1 hG.1 dX4_certificateAt_30 ?_
      refine q_iload_n F 1 dX4_certificateAt_33 rfl rfl ?_
      refine q_aald_c F hG.2.2.1.2.1 hG.2.2.1.2.2 rfl (by omega) (by decide) hz dX4_certificateAt_34 ?_
      exact q_x (q_reta F hr (Or.inl ⟨_, rfl⟩) (Or.inr ⟨_, rfl⟩) dX4_certificateAt_35 (Nat.le_of_ble_eq_true rfl) (Nat.le_of_ble_eq_true rfl) ⟨by rw [hcl, hz]; rfl, rfl, hin⟩)
    exact qt_X4_175 F hst ht dX4_certificateAt_19 dX4_certificateAt_22 dX4_certificateAt_23 dX4_certificateAt_25 dX4_certificateAt_28 ⟨Nat.le_of_ble_eq_true rfl, Nat.le_of_ble_eq_true rfl⟩ ⟨Nat.le_of_ble_eq_true rfl, Nat.le_of_ble_eq_true rfl⟩ (Nat.le_of_ble_eq_true rfl) (Nat.le_of_ble_eq_true rfl) ⟨rfl, by first | exact inL_f1 c8 | exact inL_f2 (by rw [← hC.2.2.1.1]; exact c16), rfl⟩
  exact absurd c2 hi

set_option maxHeartbeats 4000000 in
set_option maxRecDepth 100000 in
theorem c_X4_certificateAt_n {l : Launch} {g : hG} {X : va_W} {S : hS} {h : Nat} : hMetX l yX4_certificateAt wsX4_certificateAt rm_X4_certificateAt g X S [.ref h, .int (-1)] (pXO none S True) (pE S (fun _ => False)) := by
  refine h_startX (maxL := 2) (ret := (some (.object "HostKeyring$Certificate"))) (by decide) rfl (Nat.le_of_ble_eq_true rfl) ?_
  intro p e s m args below meth c F hr ht
  refine q_iload_n F 1 dX4_certificateAt_0 rfl rfl ?_
  refine q_iconst F dX4_certificateAt_1 hc_m1 ?_
  refine q_icmp_ne F 7 dX4_certificateAt_2 rfl (fun c2 => ?_) (fun c2 => ?_)
  · exact absurd c2 (not_not_intro rfl)
  refine q_null F dX4_certificateAt_5 ?_
  exact q_x (q_reta F hr (Or.inl ⟨_, rfl⟩) (Or.inl rfl) dX4_certificateAt_6 (Nat.le_of_ble_eq_true rfl) (Nat.le_of_ble_eq_true rfl) ⟨rfl, rfl, trivial⟩)

set_option maxHeartbeats 4000000 in
set_option maxRecDepth 100000 in
theorem c_X4_judgeByReading {l : Launch} {g : hG} {X : va_W} {S : hS} (hst : l.stackTraces = false) {h bk ca sa : Nat} {ad pa : Nat → Nat} {sc : Nat → Int32} {M : Nat → Nat → Int32} {n nc ns : Nat} (hG : cG S h bk ca sa ad pa) (hC : cC S h ca sa ad pa sc M n nc ns) {name port key : Int32} : hMetX l yX4_judgeByReading wsX4_judgeByReading rm_X4_judgeByReading g X S [.ref h, .int name, .int port, .int key] (pXI (jb (sc 1) M name port key (-1) n) S ((okNP name port && okK key) = true)) (pE S (pe1 (okNP name port && okK key) xIA)) := by
  refine h_startX (maxL := 4) (ret := (some .int)) (by decide) rfl (Nat.le_of_ble_eq_true rfl) ?_
  intro p e s m args below meth c F hr ht
  refine q_iload_n F 1 dX4_judgeByReading_0 rfl rfl ?_
  refine q_iload_n F 2 dX4_judgeByReading_1 rfl rfl ?_
  refine q_callSX_v F (c_X4_requireNameAndPort hst) gX4_judgeByReading_X4_requireNameAndPort rfl hd_X4_requireNameAndPort ⟨Nat.le_of_ble_eq_true rfl, Nat.le_of_ble_eq_true rfl⟩ rfl rfl (Nat.le_of_ble_eq_true rfl) dX4_judgeByReading_2 ⟨Nat.le_of_ble_eq_true rfl, Nat.le_of_ble_eq_true rfl⟩ (fun E hE => q_out F ht (Nat.le_of_ble_eq_true rfl) (Nat.le_of_ble_eq_true rfl) ⟨rfl, (by rw [hE.1]; rfl), hE.2⟩) (fun k2 => ?_)
  refine q_iload_n F 3 dX4_judgeByReading_5 rfl rfl ?_
  refine q_callSX_v F (c_X4_requireKey hst) gX4_judgeByReading_X4_requireKey rfl hd_X4_requireKey ⟨Nat.le_of_ble_eq_true rfl, Nat.le_of_ble_eq_true rfl⟩ rfl rfl (Nat.le_of_ble_eq_true rfl) dX4_judgeByReading_6 ⟨Nat.le_of_ble_eq_true rfl, Nat.le_of_ble_eq_true rfl⟩ (fun E hE => q_out F ht (Nat.le_of_ble_eq_true rfl) (Nat.le_of_ble_eq_true rfl) ⟨rfl, (by rw [hE.1, Bool.and_false]), hE.2⟩) (fun k6 => ?_)
  refine q_aload_n F 0 dX4_judgeByReading_9 rfl rfl ?_
  refine q_iload_n F 1 dX4_judgeByReading_10 rfl rfl ?_
  refine q_iload_n F 2 dX4_judgeByReading_11 rfl rfl ?_
  refine q_iload_n F 3 dX4_judgeByReading_12 rfl rfl ?_
  refine q_iconst F dX4_judgeByReading_13 hc_m1 ?_
  refine q_callV_i F (c_X4_judgementByLines hG hC) gX4_judgeByReading_X4_judgementByLines rfl hd_X4_judgementByLines ⟨Nat.le_of_ble_eq_true rfl, Nat.le_of_ble_eq_true rfl⟩ hG.1 rfl rfl rfl (Nat.le_of_ble_eq_true rfl) dX4_judgeByReading_14 ⟨Nat.le_of_ble_eq_true rfl, Nat.le_of_ble_eq_true rfl⟩ ?_
  exact q_x (q_reti F hr rfl dX4_judgeByReading_17 (Nat.le_of_ble_eq_true rfl) (Nat.le_of_ble_eq_true rfl) ⟨rfl, rfl, by rw [k2, k6]; rfl⟩)

set_option maxHeartbeats 4000000 in
set_option maxRecDepth 100000 in
theorem c_X4_judge {l : Launch} {g : hG} {X : va_W} {S : hS} (hst : l.stackTraces = false) {h bk ca sa : Nat} {ad pa : Nat → Nat} {sc : Nat → Int32} {M : Nat → Nat → Int32} {n nc ns : Nat} (hG : cG S h bk ca sa ad pa) (hC : cC S h ca sa ad pa sc M n nc ns) {name port key ct : Int32} (hi : ¬ ct = -1) : hMetX l yX4_judge wsX4_judge rm_X4_judge g X S [.ref h, .int name, .int port, .int key, .int ct] (pXI (jo (sc 1) M n ns name port key ct.toNatClampNeg) S (inL ct nc = true ∧ (okNP name port && okK key) = true)) (pE S (pe2 (inL ct nc) (okNP name port && okK key) xIO xIA)) := by
  refine h_startX (maxL := 6) (ret := (some .int)) (by decide) rfl (Nat.le_of_ble_eq_true rfl) ?_
  intro p e s m args below meth c F hr ht
  refine q_aload_n F 0 dX4_judge_0 rfl rfl ?_
  refine q_iload F dX4_judge_1 rfl ?_
  refine q_callVX_a F (c_X4_certificateAt hst hG hC hi) gX4_judge_X4_certificateAt rfl hd_X4_certificateAt ⟨Nat.le_of_ble_eq_true rfl, Nat.le_of_ble_eq_true rfl⟩ hG.1 rfl rfl rfl (Nat.le_of_ble_eq_true rfl) dX4_judge_3 ⟨Nat.le_of_ble_eq_true rfl, Nat.le_of_ble_eq_true rfl⟩ (fun E hE => q_out F ht (Nat.le_of_ble_eq_true rfl) (Nat.le_of_ble_eq_true rfl) ⟨rfl, Or.inl hE⟩) (fun k3 => ?_)
  obtain ⟨ci, hci, rfl⟩ := inL_get k3 (by have := hC.2.2.1.2.2; omega)
  have hcl : (nI ci).toNatClampNeg = ci := nI_clamp (by have := hC.2.2.1.2.2; omega)
  obtain ⟨cr, hz, hR⟩ := hC.2.2.2.2.2.2.1 ci hci
  rw [hcl, hz]
  refine q_astore F dX4_judge_6 (by decide) rfl ?_
  refine q_iload_n F 1 dX4_judge_8 rfl rfl ?_
  refine q_iload_n F 2 dX4_judge_9 rfl rfl ?_
  refine q_callSX_v F (c_X4_requireNameAndPort hst) gX4_judge_X4_requireNameAndPort rfl hd_X4_requireNameAndPort ⟨Nat.le_of_ble_eq_true rfl, Nat.le_of_ble_eq_true rfl⟩ rfl rfl (Nat.le_of_ble_eq_true rfl) dX4_judge_10 ⟨Nat.le_of_ble_eq_true rfl, Nat.le_of_ble_eq_true rfl⟩ (fun E hE => q_out F ht (Nat.le_of_ble_eq_true rfl) (Nat.le_of_ble_eq_true rfl) ⟨rfl, Or.inr ⟨k3, by rw [hE.1]; rfl, hE.2⟩⟩) (fun k10 => ?_)
  refine q_iload_n F 3 dX4_judge_13 rfl rfl ?_
  refine q_callSX_v F (c_X4_requireKey hst) gX4_judge_X4_requireKey rfl hd_X4_requireKey ⟨Nat.le_of_ble_eq_true rfl, Nat.le_of_ble_eq_true rfl⟩ rfl rfl (Nat.le_of_ble_eq_true rfl) dX4_judge_14 ⟨Nat.le_of_ble_eq_true rfl, Nat.le_of_ble_eq_true rfl⟩ (fun E hE => q_out F ht (Nat.le_of_ble_eq_true rfl) (Nat.le_of_ble_eq_true rfl) ⟨rfl, Or.inr ⟨k3, by rw [hE.1, Bool.and_false], hE.2⟩⟩) (fun k14 => ?_)
  refine q_aload_n F 0 dX4_judge_17 rfl rfl ?_
  refine q_iload_n F 1 dX4_judge_18 rfl rfl ?_
  refine q_iload_n F 2 dX4_judge_19 rfl rfl ?_
  refine q_iload_n F 3 dX4_judge_20 rfl rfl ?_
  refine q_aload F dX4_judge_21 rfl ?_
  refine q_callV_i F (c_X4_judgementOf hG hC hR) gX4_judge_X4_judgementOf rfl hd_X4_judgementOf ⟨Nat.le_of_ble_eq_true rfl, Nat.le_of_ble_eq_true rfl⟩ hG.1 rfl rfl rfl (Nat.le_of_ble_eq_true rfl) dX4_judge_23 ⟨Nat.le_of_ble_eq_true rfl, Nat.le_of_ble_eq_true rfl⟩ ?_
  exact q_x (q_reti F hr rfl dX4_judge_26 (Nat.le_of_ble_eq_true rfl) (Nat.le_of_ble_eq_true rfl) ⟨rfl, rfl, k3, by rw [k10, k14]; rfl⟩)

set_option maxHeartbeats 4000000 in
set_option maxRecDepth 100000 in
theorem c_X4_judge_n {l : Launch} {g : hG} {X : va_W} {S : hS} (hst : l.stackTraces = false) {h bk ca sa : Nat} {ad pa : Nat → Nat} {sc : Nat → Int32} {M : Nat → Nat → Int32} {n nc ns : Nat} (hG : cG S h bk ca sa ad pa) (hC : cC S h ca sa ad pa sc M n nc ns) {name port key : Int32} : hMetX l yX4_judge wsX4_judge rm_X4_judge g X S [.ref h, .int name, .int port, .int key, .int (-1)] (pXI (jb (sc 1) M name port key (-1) n) S ((okNP name port && okK key) = true)) (pE S (pe1 (okNP name port && okK key) xIA)) := by
  refine h_startX (maxL := 6) (ret := (some .int)) (by decide) rfl (Nat.le_of_ble_eq_true rfl) ?_
  intro p e s m args below meth c F hr ht
  refine q_aload_n F 0 dX4_judge_0 rfl rfl ?_
  refine q_iload F dX4_judge_1 rfl ?_
  refine q_callVX_o F (c_X4_certificateAt_n) gX4_judge_X4_certificateAt rfl hd_X4_certificateAt ⟨Nat.le_of_ble_eq_true rfl, Nat.le_of_ble_eq_true rfl⟩ hG.1 rfl rfl rfl (Nat.le_of_ble_eq_true rfl) dX4_judge_3 ⟨Nat.le_of_ble_eq_true rfl, Nat.le_of_ble_eq_true rfl⟩ (fun E hE => hE.elim) (fun k3 => ?_)
  refine q_astoreN F dX4_judge_6 (by decide) rfl ?_
  refine q_iload_n F 1 dX4_judge_8 rfl rfl ?_
  refine q_iload_n F 2 dX4_judge_9 rfl rfl ?_
  refine q_callSX_v F (c_X4_requireNameAndPort hst) gX4_judge_X4_requireNameAndPort rfl hd_X4_requireNameAndPort ⟨Nat.le_of_ble_eq_true rfl, Nat.le_of_ble_eq_true rfl⟩ rfl rfl (Nat.le_of_ble_eq_true rfl) dX4_judge_10 ⟨Nat.le_of_ble_eq_true rfl, Nat.le_of_ble_eq_true rfl⟩ (fun E hE => q_out F ht (Nat.le_of_ble_eq_true rfl) (Nat.le_of_ble_eq_true rfl) ⟨rfl, (by rw [hE.1]; rfl), hE.2⟩) (fun k10 => ?_)
  refine q_iload_n F 3 dX4_judge_13 rfl rfl ?_
  refine q_callSX_v F (c_X4_requireKey hst) gX4_judge_X4_requireKey rfl hd_X4_requireKey ⟨Nat.le_of_ble_eq_true rfl, Nat.le_of_ble_eq_true rfl⟩ rfl rfl (Nat.le_of_ble_eq_true rfl) dX4_judge_14 ⟨Nat.le_of_ble_eq_true rfl, Nat.le_of_ble_eq_true rfl⟩ (fun E hE => q_out F ht (Nat.le_of_ble_eq_true rfl) (Nat.le_of_ble_eq_true rfl) ⟨rfl, (by rw [hE.1, Bool.and_false]), hE.2⟩) (fun k14 => ?_)
  refine q_aload_n F 0 dX4_judge_17 rfl rfl ?_
  refine q_iload_n F 1 dX4_judge_18 rfl rfl ?_
  refine q_iload_n F 2 dX4_judge_19 rfl rfl ?_
  refine q_iload_n F 3 dX4_judge_20 rfl rfl ?_
  refine q_aloadN F dX4_judge_21 rfl ?_
  refine q_callV_i F (c_X4_judgementOf_n hG hC) gX4_judge_X4_judgementOf rfl hd_X4_judgementOf ⟨Nat.le_of_ble_eq_true rfl, Nat.le_of_ble_eq_true rfl⟩ hG.1 rfl rfl rfl (Nat.le_of_ble_eq_true rfl) dX4_judge_23 ⟨Nat.le_of_ble_eq_true rfl, Nat.le_of_ble_eq_true rfl⟩ ?_
  exact q_x (q_reti F hr rfl dX4_judge_26 (Nat.le_of_ble_eq_true rfl) (Nat.le_of_ble_eq_true rfl) ⟨rfl, rfl, by rw [k10, k14]; rfl⟩)

set_option maxHeartbeats 4000000 in
set_option maxRecDepth 100000 in
theorem c_X4_day {l : Launch} {g : hG} {X : va_W} {S : hS} {h : Nat} (hO4 : isO S h 4) : hMet l yX4_day wsX4_day rm_X4_day g X S [.ref h] (pI (sF S 46 h) S) := by
  refine h_start (maxL := 1) (ret := (some .int)) (by decide) rfl (Nat.le_of_ble_eq_true rfl) ?_
  intro p e s m args below meth c F hr hinit
  refine q_aload_n F 0 dX4_day_0 rfl rfl ?_
  refine qg_X4_146 F hO4 dX4_day_1 ?_
  exact (q_reti F hr rfl dX4_day_4 (Nat.le_of_ble_eq_true rfl) (Nat.le_of_ble_eq_true rfl) ⟨rfl, rfl⟩)

set_option maxHeartbeats 4000000 in
set_option maxRecDepth 100000 in
theorem c_X4_lines {l : Launch} {g : hG} {X : va_W} {S : hS} {h : Nat} (hO4 : isO S h 4) : hMet l yX4_lines wsX4_lines rm_X4_lines g X S [.ref h] (pI (sF S 41 h) S) := by
  refine h_start (maxL := 1) (ret := (some .int)) (by decide) rfl (Nat.le_of_ble_eq_true rfl) ?_
  intro p e s m args below meth c F hr hinit
  refine q_aload_n F 0 dX4_lines_0 rfl rfl ?_
  refine qg_X4_47 F hO4 dX4_lines_1 ?_
  exact (q_reti F hr rfl dX4_lines_4 (Nat.le_of_ble_eq_true rfl) (Nat.le_of_ble_eq_true rfl) ⟨rfl, rfl⟩)

set_option maxHeartbeats 4000000 in
set_option maxRecDepth 100000 in
theorem c_X4_waiting {l : Launch} {g : hG} {X : va_W} {S : hS} {h : Nat} (hO4 : isO S h 4) : hMet l yX4_waiting wsX4_waiting rm_X4_waiting g X S [.ref h] (pI (sF S 51 h) S) := by
  refine h_start (maxL := 1) (ret := (some .int)) (by decide) rfl (Nat.le_of_ble_eq_true rfl) ?_
  intro p e s m args below meth c F hr hinit
  refine q_aload_n F 0 dX4_waiting_0 rfl rfl ?_
  refine qg_X4_31 F hO4 dX4_waiting_1 ?_
  exact (q_reti F hr rfl dX4_waiting_4 (Nat.le_of_ble_eq_true rfl) (Nat.le_of_ble_eq_true rfl) ⟨rfl, rfl⟩)

set_option maxHeartbeats 4000000 in
set_option maxRecDepth 100000 in
theorem c_X4_keyOf {l : Launch} {g : hG} {X : va_W} {S : hS} (hst : l.stackTraces = false) {h bk ca sa : Nat} {ad pa : Nat → Nat} {sc : Nat → Int32} {M : Nat → Nat → Int32} {n nc ns : Nat} (hG : cG S h bk ca sa ad pa) (hC : cC S h ca sa ad pa sc M n nc ns) {i : Int32} : hMetX l yX4_keyOf wsX4_keyOf rm_X4_keyOf g X S [.ref h, .int i] (pXI (1000 * M 6 i.toNatClampNeg + M 5 i.toNatClampNeg) S (inL i n = true)) (pE S (pe1 (inL i n) xIO)) := by
  refine h_startX (maxL := 3) (ret := (some .int)) (by decide) rfl (Nat.le_of_ble_eq_true rfl) ?_
  intro p e s m args below meth c F hr ht
  refine q_aload_n F 0 dX4_keyOf_0 rfl rfl ?_
  refine q_iload_n F 1 dX4_keyOf_1 rfl rfl ?_
  refine q_callVX_a F (c_X4_lineAt hst hG hC) gX4_keyOf_X4_lineAt rfl hd_X4_lineAt ⟨Nat.le_of_ble_eq_true rfl, Nat.le_of_ble_eq_true rfl⟩ hG.1 rfl rfl rfl (Nat.le_of_ble_eq_true rfl) dX4_keyOf_2 ⟨Nat.le_of_ble_eq_true rfl, Nat.le_of_ble_eq_true rfl⟩ (fun E hE => q_out F ht (Nat.le_of_ble_eq_true rfl) (Nat.le_of_ble_eq_true rfl) ⟨rfl, hE⟩) (fun k2 => ?_)
  have hn40 := hC.1.2.2
  obtain ⟨j, hj, rfl⟩ := inL_get k2 (by omega)
  have hcl : (nI j).toNatClampNeg = j := nI_clamp (by omega)
  have hi40 : j < 40 := by omega
  obtain ⟨pt, k, hL⟩ := hC.2.1 j hj
  rw [hcl]
  refine q_astore_n F 2 dX4_keyOf_5 rfl (by decide) rfl ?_
  refine q_sipush (v := 1000) F dX4_keyOf_6 (by decide) ?_
  refine q_aload_n F 2 dX4_keyOf_9 rfl rfl ?_
  refine qg_X4_155 F (hG.2.2.2.2.1 _ hi40).2.1 dX4_keyOf_10 ?_
  refine q_imul F dX4_keyOf_13 ?_
  refine q_aload_n F 2 dX4_keyOf_14 rfl rfl ?_
  refine qg_X4_65 F (hG.2.2.2.2.1 _ hi40).2.1 dX4_keyOf_15 ?_
  refine q_iadd F dX4_keyOf_18 ?_
  exact q_x (q_reti F hr rfl dX4_keyOf_19 (Nat.le_of_ble_eq_true rfl) (Nat.le_of_ble_eq_true rfl) ⟨by rw [← hL.1.1, ← hL.1.2.1], rfl, k2⟩)

set_option maxHeartbeats 4000000 in
set_option maxRecDepth 100000 in
theorem c_X4_seen {l : Launch} {g : hG} {X : va_W} {S : hS} (hst : l.stackTraces = false) {h bk ca sa : Nat} {ad pa : Nat → Nat} {sc : Nat → Int32} {M : Nat → Nat → Int32} {n nc ns : Nat} (hG : cG S h bk ca sa ad pa) (hC : cC S h ca sa ad pa sc M n nc ns) {i : Int32} : hMetX l yX4_seen wsX4_seen rm_X4_seen g X S [.ref h, .int i] (pXI (M 7 i.toNatClampNeg) S (inL i n = true)) (pE S (pe1 (inL i n) xIO)) := by
  refine h_startX (maxL := 2) (ret := (some .int)) (by decide) rfl (Nat.le_of_ble_eq_true rfl) ?_
  intro p e s m args below meth c F hr ht
  refine q_aload_n F 0 dX4_seen_0 rfl rfl ?_
  refine q_iload_n F 1 dX4_seen_1 rfl rfl ?_
  refine q_callVX_a F (c_X4_lineAt hst hG hC) gX4_seen_X4_lineAt rfl hd_X4_lineAt ⟨Nat.le_of_ble_eq_true rfl, Nat.le_of_ble_eq_true rfl⟩ hG.1 rfl rfl rfl (Nat.le_of_ble_eq_true rfl) dX4_seen_2 ⟨Nat.le_of_ble_eq_true rfl, Nat.le_of_ble_eq_true rfl⟩ (fun E hE => q_out F ht (Nat.le_of_ble_eq_true rfl) (Nat.le_of_ble_eq_true rfl) ⟨rfl, hE⟩) (fun k2 => ?_)
  have hn40 := hC.1.2.2
  obtain ⟨j, hj, rfl⟩ := inL_get k2 (by omega)
  have hcl : (nI j).toNatClampNeg = j := nI_clamp (by omega)
  have hi40 : j < 40 := by omega
  obtain ⟨pt, k, hL⟩ := hC.2.1 j hj
  rw [hcl]
  refine qg_X4_158 F (hG.2.2.2.2.1 _ hi40).2.1 dX4_seen_5 ?_
  exact q_x (q_reti F hr rfl dX4_seen_8 (Nat.le_of_ble_eq_true rfl) (Nat.le_of_ble_eq_true rfl) ⟨by rw [← hL.1.2.2.1], rfl, k2⟩)

set_option maxHeartbeats 4000000 in
set_option maxRecDepth 100000 in
theorem c_X4_end {l : Launch} {g : hG} {X : va_W} {S : hS} (hst : l.stackTraces = false) {h bk ca sa : Nat} {ad pa : Nat → Nat} {sc : Nat → Int32} {M : Nat → Nat → Int32} {n nc ns : Nat} (hG : cG S h bk ca sa ad pa) (hC : cC S h ca sa ad pa sc M n nc ns) {i : Int32} : hMetX l yX4_end wsX4_end rm_X4_end g X S [.ref h, .int i] (pXI (M 8 i.toNatClampNeg) S (inL i n = true)) (pE S (pe1 (inL i n) xIO)) := by
  refine h_startX (maxL := 2) (ret := (some .int)) (by decide) rfl (Nat.le_of_ble_eq_true rfl) ?_
  intro p e s m args below meth c F hr ht
  refine q_aload_n F 0 dX4_end_0 rfl rfl ?_
  refine q_iload_n F 1 dX4_end_1 rfl rfl ?_
  refine q_callVX_a F (c_X4_lineAt hst hG hC) gX4_end_X4_lineAt rfl hd_X4_lineAt ⟨Nat.le_of_ble_eq_true rfl, Nat.le_of_ble_eq_true rfl⟩ hG.1 rfl rfl rfl (Nat.le_of_ble_eq_true rfl) dX4_end_2 ⟨Nat.le_of_ble_eq_true rfl, Nat.le_of_ble_eq_true rfl⟩ (fun E hE => q_out F ht (Nat.le_of_ble_eq_true rfl) (Nat.le_of_ble_eq_true rfl) ⟨rfl, hE⟩) (fun k2 => ?_)
  have hn40 := hC.1.2.2
  obtain ⟨j, hj, rfl⟩ := inL_get k2 (by omega)
  have hcl : (nI j).toNatClampNeg = j := nI_clamp (by omega)
  have hi40 : j < 40 := by omega
  obtain ⟨pt, k, hL⟩ := hC.2.1 j hj
  rw [hcl]
  refine qg_X4_161 F (hG.2.2.2.2.1 _ hi40).2.1 dX4_end_5 ?_
  exact q_x (q_reti F hr rfl dX4_end_8 (Nat.le_of_ble_eq_true rfl) (Nat.le_of_ble_eq_true rfl) ⟨by rw [← hL.1.2.2.2], rfl, k2⟩)

set_option maxHeartbeats 4000000 in
set_option maxRecDepth 100000 in
theorem c_X4_matches {l : Launch} {g : hG} {X : va_W} {S : hS} (hst : l.stackTraces = false) {h bk ca sa : Nat} {ad pa : Nat → Nat} {sc : Nat → Int32} {M : Nat → Nat → Int32} {n nc ns : Nat} (hG : cG S h bk ca sa ad pa) (hC : cC S h ca sa ad pa sc M n nc ns) {i name port : Int32} : hMetX l yX4_matches wsX4_matches rm_X4_matches g X S [.ref h, .int i, .int name, .int port] (pXI (b2 (mt M i.toNatClampNeg name port)) S (inL i n = true ∧ okNP name port = true)) (pE S (pe2 (inL i n) (okNP name port) xIO xIA)) := by
  refine h_startX (maxL := 5) (ret := (some .boolean)) (by decide) rfl (Nat.le_of_ble_eq_true rfl) ?_
  intro p e s m args below meth c F hr ht
  refine q_aload_n F 0 dX4_matches_0 rfl rfl ?_
  refine q_iload_n F 1 dX4_matches_1 rfl rfl ?_
  refine q_callVX_a F (c_X4_lineAt hst hG hC) gX4_matches_X4_lineAt rfl hd_X4_lineAt ⟨Nat.le_of_ble_eq_true rfl, Nat.le_of_ble_eq_true rfl⟩ hG.1 rfl rfl rfl (Nat.le_of_ble_eq_true rfl) dX4_matches_2 ⟨Nat.le_of_ble_eq_true rfl, Nat.le_of_ble_eq_true rfl⟩ (fun E hE => q_out F ht (Nat.le_of_ble_eq_true rfl) (Nat.le_of_ble_eq_true rfl) ⟨rfl, Or.inl hE⟩) (fun k2 => ?_)
  have hn40 := hC.1.2.2
  obtain ⟨j, hj, rfl⟩ := inL_get k2 (by omega)
  have hcl : (nI j).toNatClampNeg = j := nI_clamp (by omega)
  have hi40 : j < 40 := by omega
  obtain ⟨pt, k, hL⟩ := hC.2.1 j hj
  rw [hcl]
  refine q_astore F dX4_matches_5 (by decide) rfl ?_
  refine q_iload_n F 2 dX4_matches_7 rfl rfl ?_
  refine q_iload_n F 3 dX4_matches_8 rfl rfl ?_
  refine q_callSX_v F (c_X4_requireNameAndPort hst) gX4_matches_X4_requireNameAndPort rfl hd_X4_requireNameAndPort ⟨Nat.le_of_ble_eq_true rfl, Nat.le_of_ble_eq_true rfl⟩ rfl rfl (Nat.le_of_ble_eq_true rfl) dX4_matches_9 ⟨Nat.le_of_ble_eq_true rfl, Nat.le_of_ble_eq_true rfl⟩ (fun E hE => q_out F ht (Nat.le_of_ble_eq_true rfl) (Nat.le_of_ble_eq_true rfl) ⟨rfl, Or.inr ⟨k2, hE⟩⟩) (fun k9 => ?_)
  refine q_aload F dX4_matches_12 rfl ?_
  refine q_iload_n F 2 dX4_matches_14 rfl rfl ?_
  refine q_iload_n F 3 dX4_matches_15 rfl rfl ?_
  refine q_callV_i F (c_X1_covers (hG.2.2.2.2.1 _ hi40).2 hL) gX4_matches_X1_covers rfl hd_X1_covers ⟨Nat.le_of_ble_eq_true rfl, Nat.le_of_ble_eq_true rfl⟩ (hG.2.2.2.2.1 _ hi40).2.1 rfl rfl rfl (Nat.le_of_ble_eq_true rfl) dX4_matches_16 ⟨Nat.le_of_ble_eq_true rfl, Nat.le_of_ble_eq_true rfl⟩ ?_
  exact q_x (q_reti F hr (b2_nar _) dX4_matches_19 (Nat.le_of_ble_eq_true rfl) (Nat.le_of_ble_eq_true rfl) ⟨rfl, rfl, k2, k9⟩)

set_option maxHeartbeats 4000000 in
set_option maxRecDepth 100000 in
theorem c_X4_find {l : Launch} {g : hG} {X : va_W} {S : hS} (hst : l.stackTraces = false) {h bk ca sa : Nat} {ad pa : Nat → Nat} {sc : Nat → Int32} {M : Nat → Nat → Int32} {n nc ns : Nat} (hG : cG S h bk ca sa ad pa) (hC : cC S h ca sa ad pa sc M n nc ns) {name port : Int32} : hMetX l yX4_find wsX4_find rm_X4_find g X S [.ref h, .int name, .int port] (pXI (fd (fun i => mt M i name port) n n) S (okNP name port = true)) (pE S (pe1 (okNP name port) xIA)) := by
  refine h_startX (maxL := 4) (ret := (some .int)) (by decide) rfl (Nat.le_of_ble_eq_true rfl) ?_
  intro p e s m args below meth c F hr ht
  have hn40 := hC.1.2.2
  refine q_iload_n F 1 dX4_find_0 rfl rfl ?_
  refine q_iload_n F 2 dX4_find_1 rfl rfl ?_
  refine q_callSX_v F (c_X4_requireNameAndPort hst) gX4_find_X4_requireNameAndPort rfl hd_X4_requireNameAndPort ⟨Nat.le_of_ble_eq_true rfl, Nat.le_of_ble_eq_true rfl⟩ rfl rfl (Nat.le_of_ble_eq_true rfl) dX4_find_2 ⟨Nat.le_of_ble_eq_true rfl, Nat.le_of_ble_eq_true rfl⟩ (fun E hE => q_out F ht (Nat.le_of_ble_eq_true rfl) (Nat.le_of_ble_eq_true rfl) ⟨rfl, hE⟩) (fun k2 => ?_)
  refine q_iconst F dX4_find_5 hc_0 ?_
  refine q_istore_n F 3 dX4_find_6 rfl (by decide) rfl ?_
  have L : ∀ (r j : Nat), j + r = n → fd (fun i => mt M i name port) n r = fd (fun i => mt M i name port) n n → V p l e rm_X4_find s m args below meth c 4 g X (vx_MQ below (hQ g X (pXI (fd (fun i => mt M i name port) n n) S (okNP name port = true))) (hXC g X (pE S (pe1 (okNP name port) xIA))) args s rm_X4_find.cells rm_X4_find.slots (hA g)) S 2 12 [(0, .ref h), (1, .int name), (2, .int port), (3, .int (nI j))] 7 [] := by
    intro r
    induction r with
    | zero =>
      intro j hjr hD
      have hjn : j = n := by omega
      subst hjn
      refine q_iload_n F 3 dX4_find_7 rfl rfl ?_
      refine q_aload_n F 0 dX4_find_8 rfl rfl ?_
      refine qg_X4_47 F hG.1 dX4_find_9 ?_
      refine q_icmp_ge F 37 dX4_find_12 rfl (fun c12 => ?_) (fun c12 => ?_)
      · refine q_iconst F dX4_find_37 hc_m1 ?_
        exact q_x (q_reti F hr rfl dX4_find_38 (Nat.le_of_ble_eq_true rfl) (Nat.le_of_ble_eq_true rfl) ⟨by rw [← hD]; rfl, rfl, k2⟩)
      exact absurd c12 (gT hC.1.1 rfl (Nat.le_refl _) (by omega))
    | succ r ih =>
      intro j hjr hD
      have hj : j < n := by omega
      have hi40 : j < 40 := Nat.lt_of_lt_of_le hj hC.1.2.2
      obtain ⟨pt, k, hL⟩ := hC.2.1 j hj
      refine q_iload_n F 3 dX4_find_7 rfl rfl ?_
      refine q_aload_n F 0 dX4_find_8 rfl rfl ?_
      refine qg_X4_47 F hG.1 dX4_find_9 ?_
      refine q_icmp_ge F 37 dX4_find_12 rfl (fun c12 => ?_) (fun c12 => ?_)
      · exact absurd c12 (gF hC.1.1 rfl hj (by omega))
      refine q_aload_n F 0 dX4_find_15 rfl rfl ?_
      refine qg_X4_11 F hG.2.1.1 hG.1 dX4_find_16 ?_
      refine q_iload_n F 3 dX4_find_19 rfl rfl ?_
      refine q_aald_l F hG.2.1.2.1 hG.2.1.2.2 rfl hi40 (by decide) (hG.2.2.2.2.1 _ hi40).1 dX4_find_20 ?_
      refine q_iload_n F 1 dX4_find_21 rfl rfl ?_
      refine q_iload_n F 2 dX4_find_22 rfl rfl ?_
      refine q_callV_i F (c_X1_covers (hG.2.2.2.2.1 _ hi40).2 hL) gX4_find_X1_covers rfl hd_X1_covers ⟨Nat.le_of_ble_eq_true rfl, Nat.le_of_ble_eq_true rfl⟩ (hG.2.2.2.2.1 _ hi40).2.1 rfl rfl rfl (Nat.le_of_ble_eq_true rfl) dX4_find_23 ⟨Nat.le_of_ble_eq_true rfl, Nat.le_of_ble_eq_true rfl⟩ ?_
      refine q_if_eq F 31 dX4_find_26 rfl (fun c26 => ?_) (fun c26 => ?_)
      · refine q_iinc F (nI (j + 1)) dX4_find_31 rfl (nI_inc j) (by decide) rfl ?_
        refine q_goto F 7 dX4_find_34 rfl ?_
        exact q_to (ih (j + 1) (by omega) (by rw [← hD]; exact (fd_s hjr (b2_0.mp c26)).symm)) ⟨rfl, rfl, rfl, rfl, trivial⟩
      refine q_iload_n F 3 dX4_find_29 rfl rfl ?_
      exact q_x (q_reti F hr rfl dX4_find_30 (Nat.le_of_ble_eq_true rfl) (Nat.le_of_ble_eq_true rfl) ⟨by rw [← hD, fd_t hjr (b2_n0 c26)], rfl, k2⟩)
  exact q_to (L n 0 (by omega) rfl) ⟨rfl, rfl, rfl, rfl, trivial⟩

set_option maxHeartbeats 4000000 in
set_option maxRecDepth 100000 in
theorem c_X4_linesOf {l : Launch} {g : hG} {X : va_W} {S : hS} (hst : l.stackTraces = false) {h bk ca sa : Nat} {ad pa : Nat → Nat} {sc : Nat → Int32} {M : Nat → Nat → Int32} {n nc ns : Nat} (hG : cG S h bk ca sa ad pa) (hC : cC S h ca sa ad pa sc M n nc ns) {key : Int32} : hMetX l yX4_linesOf wsX4_linesOf rm_X4_linesOf g X S [.ref h, .int key] (pXL (lo (fun i => decide (M 5 i = key)) n) S (okK key = true)) (pE S (pe1 (okK key) xIA)) := by
  refine h_startX (maxL := 5) (ret := (some .long)) (by decide) rfl (Nat.le_of_ble_eq_true rfl) ?_
  intro p e s m args below meth c F hr ht
  have hn40 := hC.1.2.2
  refine q_iload_n F 1 dX4_linesOf_0 rfl rfl ?_
  refine q_callSX_v F (c_X4_requireKey hst) gX4_linesOf_X4_requireKey rfl hd_X4_requireKey ⟨Nat.le_of_ble_eq_true rfl, Nat.le_of_ble_eq_true rfl⟩ rfl rfl (Nat.le_of_ble_eq_true rfl) dX4_linesOf_1 ⟨Nat.le_of_ble_eq_true rfl, Nat.le_of_ble_eq_true rfl⟩ (fun E hE => q_out F ht (Nat.le_of_ble_eq_true rfl) (Nat.le_of_ble_eq_true rfl) ⟨rfl, hE⟩) (fun k1 => ?_)
  refine q_lconst (v := 0) F dX4_linesOf_4 (by decide) ?_
  refine q_lstore_n F 2 dX4_linesOf_5 rfl (by decide) rfl ?_
  refine q_iconst F dX4_linesOf_6 hc_0 ?_
  refine q_istore F dX4_linesOf_7 (by decide) rfl ?_
  have L : ∀ (r j : Nat), j + r = n → V p l e rm_X4_linesOf s m args below meth c 5 g X (vx_MQ below (hQ g X (pXL (lo (fun i => decide (M 5 i = key)) n) S (okK key = true))) (hXC g X (pE S (pe1 (okK key) xIA))) args s rm_X4_linesOf.cells rm_X4_linesOf.slots (hA g)) S 1 6 [(0, .ref h), (1, .int key), (2, .long (lo (fun i => decide (M 5 i = key)) j)), (4, .int (nI j))] 9 [] := by
    intro r
    induction r with
    | zero =>
      intro j hjr
      have hjn : j = n := by omega
      subst hjn
      refine q_iload F dX4_linesOf_9 rfl ?_
      refine q_aload_n F 0 dX4_linesOf_11 rfl rfl ?_
      refine qg_X4_47 F hG.1 dX4_linesOf_12 ?_
      refine q_icmp_ge F 45 dX4_linesOf_15 rfl (fun c15 => ?_) (fun c15 => ?_)
      · refine q_lload_n F 2 dX4_linesOf_45 rfl rfl ?_
        exact q_x (q_retl F hr dX4_linesOf_46 (Nat.le_of_ble_eq_true rfl) (Nat.le_of_ble_eq_true rfl) ⟨rfl, rfl, k1⟩)
      exact absurd c15 (gT hC.1.1 rfl (Nat.le_refl _) (by omega))
    | succ r ih =>
      intro j hjr
      have hj : j < n := by omega
      have hi40 : j < 40 := Nat.lt_of_lt_of_le hj hC.1.2.2
      obtain ⟨pt, k, hL⟩ := hC.2.1 j hj
      refine q_iload F dX4_linesOf_9 rfl ?_
      refine q_aload_n F 0 dX4_linesOf_11 rfl rfl ?_
      refine qg_X4_47 F hG.1 dX4_linesOf_12 ?_
      refine q_icmp_ge F 45 dX4_linesOf_15 rfl (fun c15 => ?_) (fun c15 => ?_)
      · exact absurd c15 (gF hC.1.1 rfl hj (by omega))
      refine q_aload_n F 0 dX4_linesOf_18 rfl rfl ?_
      refine qg_X4_11 F hG.2.1.1 hG.1 dX4_linesOf_19 ?_
      refine q_iload F dX4_linesOf_22 rfl ?_
      refine q_aald_l F hG.2.1.2.1 hG.2.1.2.2 rfl hi40 (by decide) (hG.2.2.2.2.1 _ hi40).1 dX4_linesOf_24 ?_
      refine qg_X4_65 F (hG.2.2.2.2.1 _ hi40).2.1 dX4_linesOf_25 ?_
      refine q_iload_n F 1 dX4_linesOf_28 rfl rfl ?_
      refine q_icmp_ne F 39 dX4_linesOf_29 rfl (fun c29 => ?_) (fun c29 => ?_)
      · refine q_iinc F (nI (j + 1)) dX4_linesOf_39 rfl (nI_inc j) (by decide) rfl ?_
        refine q_goto F 9 dX4_linesOf_42 rfl ?_
        exact q_to (ih (j + 1) (by omega)) ⟨rfl, rfl, congrArg (fun z => some (Value.long z)) (by rw [hL.1.2.1] at c29; first | exact (lo_s (f := (fun i => decide (M 5 i = key))) (decide_eq_false c29)).symm | exact (lo_t (f := (fun i => decide (M 5 i = key))) (decide_eq_true c29)).symm), rfl, trivial⟩
      refine q_lload_n F 2 dX4_linesOf_32 rfl rfl ?_
      refine q_lconst (v := 1) F dX4_linesOf_33 (by decide) ?_
      refine q_iload F dX4_linesOf_34 rfl ?_
      refine q_lshl F dX4_linesOf_36 ?_
      refine q_lor F dX4_linesOf_37 ?_
      refine q_lstore_n F 2 dX4_linesOf_38 rfl (by decide) rfl ?_
      refine q_iinc F (nI (j + 1)) dX4_linesOf_39 rfl (nI_inc j) (by decide) rfl ?_
      refine q_goto F 9 dX4_linesOf_42 rfl ?_
      exact q_to (ih (j + 1) (by omega)) ⟨rfl, rfl, congrArg (fun z => some (Value.long z)) (by rw [hL.1.2.1] at c29; first | exact (lo_s (f := (fun i => decide (M 5 i = key))) (decide_eq_false c29)).symm | exact (lo_t (f := (fun i => decide (M 5 i = key))) (decide_eq_true c29)).symm), rfl, trivial⟩
  exact q_to (L n 0 (by omega)) ⟨rfl, rfl, rfl, rfl, trivial⟩


