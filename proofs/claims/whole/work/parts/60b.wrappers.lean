def pw1 (S : hS) (k : Int32) (A : Bool) (PI : Int64 → hS → Prop) : Int32 → Int64 → hS → Prop := fun r w S' => (A = false ∧ r = k ∧ S' = S) ∨ (r = 0 ∧ PI w S')
def pw2 (S : hS) (A B : Bool) (PI : Int64 → hS → Prop) : Int32 → Int64 → hS → Prop := fun r w S' => (A = false ∧ r = 1 ∧ S' = S) ∨ (A = true ∧ B = false ∧ r = 2 ∧ S' = S) ∨ (r = 0 ∧ PI w S')
def pw3 (S : hS) (A B C : Bool) (PI : Int64 → hS → Prop) : Int32 → Int64 → hS → Prop := fun r w S' => (A = false ∧ r = 1 ∧ S' = S) ∨ (A = true ∧ B = false ∧ r = 2 ∧ S' = S) ∨ (A = true ∧ B = true ∧ C = false ∧ r = 3 ∧ S' = S) ∨ (r = 0 ∧ PI w S')

set_option maxHeartbeats 4000000 in
set_option maxRecDepth 100000 in
theorem c_L_addLine {l : Launch} {g : hG} {X0 : va_W} {o : Nat} {f : Nat → Int64} {S : hS} (hst : l.stackTraces = false) {h bk ca sa : Nat} {ad pa : Nat → Nat} {sc : Nat → Int32} {M : Nat → Nat → Int32} {n nc ns : Nat} (hG : cG S h bk ca sa ad pa) (hC : cC S h ca sa ad pa sc M n nc ns) {mk key : Int32} : hMetO l yL_addLine wsL_addLine rm_L_addLine g X0 o f S [.ref h, .int mk, .int key, .ref o] (pw2 S (inR mk 0 2 && okK key) (decide (n < 40)) (fun w S' => ∃ v : Int32, w = v.toInt64 ∧ ((inR mk 0 2 && okK key) = true ∧ n < 40) ∧ v = nI n ∧ cP S S' h bk ca sa ad pa (scN sc (n + 1)) (aAdd M n mk key (sc 1)) (n + 1) nc ns)) := by
  refine h_startO (maxL := 5) (ret := (some .int)) (by decide) rfl (Nat.le_of_ble_eq_true rfl) ?_
  intro p e s m args below meth c F hr ht
  refine q_aload_n F 3 dL_addLine_0 rfl rfl ?_
  refine q_iconst F dL_addLine_1 hc_0 ?_
  refine q_aload_n F 0 dL_addLine_2 rfl rfl ?_
  refine q_iload_n F 1 dL_addLine_3 rfl rfl ?_
  refine q_iload_n F 2 dL_addLine_4 rfl rfl ?_
  refine q_callVX_gi F (c_X4_addLine hst hG hC) gL_addLine_X4_addLine rfl hd_X4_addLine ⟨Nat.le_of_ble_eq_true rfl, Nat.le_of_ble_eq_true rfl⟩ hG.1 rfl rfl rfl (Nat.le_of_ble_eq_true rfl) dL_addLine_5 ⟨Nat.le_of_ble_eq_true rfl, Nat.le_of_ble_eq_true rfl⟩ (fun E hE => ?_) (fun r5 S5 hp5 => ?_)
  · rcases hE with ⟨hA1, rfl⟩ | ⟨hA1, hA2, rfl⟩
    · skip
      refine q_catch (name := "") F [] (⟨0, 10, 13, 13⟩ : ExceptionTableEntry) [(⟨0, 10, 17, 15⟩ : ExceptionTableEntry)] ht (fun z hz => nomatch hz) (by decide) (by decide) (List.mem_of_getElem? (i := 62) (by decide +kernel)) (by decide) (fun q => ?_)
      refine q_astore F dL_addLine_13 (by decide) rfl ?_
      refine q_iconst F dL_addLine_15 hc_1 ?_
      exact q_retiO F hr dL_addLine_16 (Nat.le_of_ble_eq_true rfl) (Nat.le_of_ble_eq_true rfl) (Or.inl ⟨hA1, rfl, rfl⟩)
    · skip
      refine q_catch (name := "") F [(⟨0, 10, 13, 13⟩ : ExceptionTableEntry)] (⟨0, 10, 17, 15⟩ : ExceptionTableEntry) [] ht (fun z hz => by rcases List.mem_cons.mp hz with rfl | hz; exact ⟨by decide, xIA, (List.mem_of_getElem? (i := 62) (by decide +kernel)), by decide, by decide⟩; exact nomatch hz) (by decide) (by decide) (List.mem_of_getElem? (i := 63) (by decide +kernel)) (by decide) (fun q => ?_)
      refine q_astore F dL_addLine_17 (by decide) rfl ?_
      refine q_iconst F dL_addLine_19 hc_2 ?_
      exact q_retiO F hr dL_addLine_20 (Nat.le_of_ble_eq_true rfl) (Nat.le_of_ble_eq_true rfl) (Or.inr (Or.inl ⟨hA1, hA2, rfl, rfl⟩))
  refine q_i2l F dL_addLine_8 ?_
  refine q_last F dL_addLine_9 (fun f1 hf1 => ?_)
  refine q_goto F 21 dL_addLine_10 rfl ?_
  refine q_iconst F dL_addLine_21 hc_0 ?_
  exact q_retiO F hr dL_addLine_22 (Nat.le_of_ble_eq_true rfl) (Nat.le_of_ble_eq_true rfl) (Or.inr (Or.inr (⟨rfl, ⟨r5, hf1, hp5⟩⟩)))

set_option maxHeartbeats 4000000 in
set_option maxRecDepth 100000 in
theorem c_L_addPattern {l : Launch} {g : hG} {X0 : va_W} {o : Nat} {f : Nat → Int64} {S : hS} (hst : l.stackTraces = false) {h bk ca sa : Nat} {ad pa : Nat → Nat} {sc : Nat → Int32} {M : Nat → Nat → Int32} {n nc ns : Nat} (hG : cG S h bk ca sa ad pa) (hC : cC S h ca sa ad pa sc M n nc ns) {i name places port den : Int32} (hB : isB den) : hMetO l yL_addPattern wsL_addPattern rm_L_addPattern g X0 o f S [.ref h, .int i, .int name, .int places, .int port, .int den, .ref o] (pw3 S (inL i n) (okNP name port && inR places 0 15) (okA M i.toNatClampNeg) (fun w S' => ∃ v : Int32, w = v.toInt64 ∧ (inL i n = true ∧ (okNP name port && inR places 0 15) = true ∧ okA M i.toNatClampNeg = true) ∧ v = nI (sz M i.toNatClampNeg + 1) ∧ cP S S' h bk ca sa ad pa sc (aPat M i.toNatClampNeg (sz M i.toNatClampNeg) name places port den) n nc ns)) := by
  refine h_startO (maxL := 8) (ret := (some .int)) (by decide) rfl (Nat.le_of_ble_eq_true rfl) ?_
  intro p e s m args below meth c F hr ht
  refine q_aload F dL_addPattern_0 rfl ?_
  refine q_iconst F dL_addPattern_2 hc_0 ?_
  refine q_aload_n F 0 dL_addPattern_3 rfl rfl ?_
  refine q_iload_n F 1 dL_addPattern_4 rfl rfl ?_
  refine q_iload_n F 2 dL_addPattern_5 rfl rfl ?_
  refine q_iload_n F 3 dL_addPattern_6 rfl rfl ?_
  refine q_iload F dL_addPattern_7 rfl ?_
  refine q_iload F dL_addPattern_9 rfl ?_
  refine q_callVX_gi F (c_X4_addPattern hst hG hC hB) gL_addPattern_X4_addPattern rfl hd_X4_addPattern ⟨Nat.le_of_ble_eq_true rfl, Nat.le_of_ble_eq_true rfl⟩ hG.1 rfl rfl rfl (Nat.le_of_ble_eq_true rfl) dL_addPattern_11 ⟨Nat.le_of_ble_eq_true rfl, Nat.le_of_ble_eq_true rfl⟩ (fun E hE => ?_) (fun r5 S5 hp5 => ?_)
  · rcases hE with ⟨hA1, rfl⟩ | ⟨hA1, hA2, rfl⟩ | ⟨hA1, hA2, hA3, rfl⟩
    · skip
      refine q_catch (name := "") F [] (⟨0, 16, 19, 21⟩ : ExceptionTableEntry) [(⟨0, 16, 23, 13⟩ : ExceptionTableEntry), (⟨0, 16, 27, 15⟩ : ExceptionTableEntry)] ht (fun z hz => nomatch hz) (by decide) (by decide) (List.mem_of_getElem? (i := 125) (by decide +kernel)) (by decide) (fun q => ?_)
      refine q_astore F dL_addPattern_19 (by decide) rfl ?_
      refine q_iconst F dL_addPattern_21 hc_1 ?_
      exact q_retiO F hr dL_addPattern_22 (Nat.le_of_ble_eq_true rfl) (Nat.le_of_ble_eq_true rfl) (Or.inl ⟨hA1, rfl, rfl⟩)
    · skip
      refine q_catch (name := "") F [(⟨0, 16, 19, 21⟩ : ExceptionTableEntry)] (⟨0, 16, 23, 13⟩ : ExceptionTableEntry) [(⟨0, 16, 27, 15⟩ : ExceptionTableEntry)] ht (fun z hz => by rcases List.mem_cons.mp hz with rfl | hz; exact ⟨by decide, xIO, (List.mem_of_getElem? (i := 125) (by decide +kernel)), by decide, by decide⟩; exact nomatch hz) (by decide) (by decide) (List.mem_of_getElem? (i := 62) (by decide +kernel)) (by decide) (fun q => ?_)
      refine q_astore F dL_addPattern_23 (by decide) rfl ?_
      refine q_iconst F dL_addPattern_25 hc_2 ?_
      exact q_retiO F hr dL_addPattern_26 (Nat.le_of_ble_eq_true rfl) (Nat.le_of_ble_eq_true rfl) (Or.inr (Or.inl ⟨hA1, hA2, rfl, rfl⟩))
    · skip
      refine q_catch (name := "") F [(⟨0, 16, 19, 21⟩ : ExceptionTableEntry), (⟨0, 16, 23, 13⟩ : ExceptionTableEntry)] (⟨0, 16, 27, 15⟩ : ExceptionTableEntry) [] ht (fun z hz => by rcases List.mem_cons.mp hz with rfl | hz; exact ⟨by decide, xIO, (List.mem_of_getElem? (i := 125) (by decide +kernel)), by decide, by decide⟩; rcases List.mem_cons.mp hz with rfl | hz; exact ⟨by decide, xIA, (List.mem_of_getElem? (i := 62) (by decide +kernel)), by decide, by decide⟩; exact nomatch hz) (by decide) (by decide) (List.mem_of_getElem? (i := 63) (by decide +kernel)) (by decide) (fun q => ?_)
      refine q_astore F dL_addPattern_27 (by decide) rfl ?_
      refine q_iconst F dL_addPattern_29 hc_3 ?_
      exact q_retiO F hr dL_addPattern_30 (Nat.le_of_ble_eq_true rfl) (Nat.le_of_ble_eq_true rfl) (Or.inr (Or.inr (Or.inl ⟨hA1, hA2, hA3, rfl, rfl⟩)))
  refine q_i2l F dL_addPattern_14 ?_
  refine q_last F dL_addPattern_15 (fun f1 hf1 => ?_)
  refine q_goto F 31 dL_addPattern_16 rfl ?_
  refine q_iconst F dL_addPattern_31 hc_0 ?_
  exact q_retiO F hr dL_addPattern_32 (Nat.le_of_ble_eq_true rfl) (Nat.le_of_ble_eq_true rfl) (Or.inr (Or.inr (Or.inr (⟨rfl, ⟨r5, hf1, hp5⟩⟩))))

set_option maxHeartbeats 4000000 in
set_option maxRecDepth 100000 in
theorem c_L_addHashed {l : Launch} {g : hG} {X0 : va_W} {o : Nat} {f : Nat → Int64} {S : hS} (hst : l.stackTraces = false) {h bk ca sa : Nat} {ad pa : Nat → Nat} {sc : Nat → Int32} {M : Nat → Nat → Int32} {n nc ns : Nat} (hG : cG S h bk ca sa ad pa) (hC : cC S h ca sa ad pa sc M n nc ns) {mk key name port salt : Int32} : hMetO l yL_addHashed wsL_addHashed rm_L_addHashed g X0 o f S [.ref h, .int mk, .int key, .int name, .int port, .int salt, .ref o] (pw2 S (inR mk 0 2 && okK key && okNP name port && inR salt 0 99) (decide (n < 40)) (fun w S' => ∃ v : Int32, w = v.toInt64 ∧ ((inR mk 0 2 && okK key && okNP name port && inR salt 0 99) = true ∧ n < 40) ∧ v = nI n ∧ cP S S' h bk ca sa ad pa (scN sc (n + 1)) (aHash (aAdd M n mk key (sc 1)) n name port salt) (n + 1) nc ns)) := by
  refine h_startO (maxL := 8) (ret := (some .int)) (by decide) rfl (Nat.le_of_ble_eq_true rfl) ?_
  intro p e s m args below meth c F hr ht
  refine q_aload F dL_addHashed_0 rfl ?_
  refine q_iconst F dL_addHashed_2 hc_0 ?_
  refine q_aload_n F 0 dL_addHashed_3 rfl rfl ?_
  refine q_iload_n F 1 dL_addHashed_4 rfl rfl ?_
  refine q_iload_n F 2 dL_addHashed_5 rfl rfl ?_
  refine q_iload_n F 3 dL_addHashed_6 rfl rfl ?_
  refine q_iload F dL_addHashed_7 rfl ?_
  refine q_iload F dL_addHashed_9 rfl ?_
  refine q_callVX_gi F (c_X4_addHashed hst hG hC) gL_addHashed_X4_addHashed rfl hd_X4_addHashed ⟨Nat.le_of_ble_eq_true rfl, Nat.le_of_ble_eq_true rfl⟩ hG.1 rfl rfl rfl (Nat.le_of_ble_eq_true rfl) dL_addHashed_11 ⟨Nat.le_of_ble_eq_true rfl, Nat.le_of_ble_eq_true rfl⟩ (fun E hE => ?_) (fun r5 S5 hp5 => ?_)
  · rcases hE with ⟨hA1, rfl⟩ | ⟨hA1, hA2, rfl⟩
    · skip
      refine q_catch (name := "") F [] (⟨0, 16, 19, 13⟩ : ExceptionTableEntry) [(⟨0, 16, 23, 15⟩ : ExceptionTableEntry)] ht (fun z hz => nomatch hz) (by decide) (by decide) (List.mem_of_getElem? (i := 62) (by decide +kernel)) (by decide) (fun q => ?_)
      refine q_astore F dL_addHashed_19 (by decide) rfl ?_
      refine q_iconst F dL_addHashed_21 hc_1 ?_
      exact q_retiO F hr dL_addHashed_22 (Nat.le_of_ble_eq_true rfl) (Nat.le_of_ble_eq_true rfl) (Or.inl ⟨hA1, rfl, rfl⟩)
    · skip
      refine q_catch (name := "") F [(⟨0, 16, 19, 13⟩ : ExceptionTableEntry)] (⟨0, 16, 23, 15⟩ : ExceptionTableEntry) [] ht (fun z hz => by rcases List.mem_cons.mp hz with rfl | hz; exact ⟨by decide, xIA, (List.mem_of_getElem? (i := 62) (by decide +kernel)), by decide, by decide⟩; exact nomatch hz) (by decide) (by decide) (List.mem_of_getElem? (i := 63) (by decide +kernel)) (by decide) (fun q => ?_)
      refine q_astore F dL_addHashed_23 (by decide) rfl ?_
      refine q_iconst F dL_addHashed_25 hc_2 ?_
      exact q_retiO F hr dL_addHashed_26 (Nat.le_of_ble_eq_true rfl) (Nat.le_of_ble_eq_true rfl) (Or.inr (Or.inl ⟨hA1, hA2, rfl, rfl⟩))
  refine q_i2l F dL_addHashed_14 ?_
  refine q_last F dL_addHashed_15 (fun f1 hf1 => ?_)
  refine q_goto F 27 dL_addHashed_16 rfl ?_
  refine q_iconst F dL_addHashed_27 hc_0 ?_
  exact q_retiO F hr dL_addHashed_28 (Nat.le_of_ble_eq_true rfl) (Nat.le_of_ble_eq_true rfl) (Or.inr (Or.inr (⟨rfl, ⟨r5, hf1, hp5⟩⟩)))

set_option maxHeartbeats 4000000 in
set_option maxRecDepth 100000 in
theorem c_L_remove {l : Launch} {g : hG} {X0 : va_W} {o : Nat} {f : Nat → Int64} {S : hS} (hst : l.stackTraces = false) {h bk ca sa : Nat} {ad pa : Nat → Nat} {sc : Nat → Int32} {M : Nat → Nat → Int32} {n nc ns : Nat} (hG : cG S h bk ca sa ad pa) (hC : cC S h ca sa ad pa sc M n nc ns) {i : Int32} : hMetO l yL_remove wsL_remove rm_L_remove g X0 o f S [.ref h, .int i, .ref o] (pw1 S 1 (inL i n) (fun w S' => ∃ v : Int32, w = v.toInt64 ∧ inL i n = true ∧ v = M 5 i.toNatClampNeg ∧ ∃ ad', cP S S' h bk ca sa ad' pa (scN sc (n - 1)) (aRem M i.toNatClampNeg n) (n - 1) nc ns)) := by
  refine h_startO (maxL := 4) (ret := (some .int)) (by decide) rfl (Nat.le_of_ble_eq_true rfl) ?_
  intro p e s m args below meth c F hr ht
  refine q_aload_n F 2 dL_remove_0 rfl rfl ?_
  refine q_iconst F dL_remove_1 hc_0 ?_
  refine q_aload_n F 0 dL_remove_2 rfl rfl ?_
  refine q_iload_n F 1 dL_remove_3 rfl rfl ?_
  refine q_callVX_gi F (c_X4_remove hst hG hC) gL_remove_X4_remove rfl hd_X4_remove ⟨Nat.le_of_ble_eq_true rfl, Nat.le_of_ble_eq_true rfl⟩ hG.1 rfl rfl rfl (Nat.le_of_ble_eq_true rfl) dL_remove_4 ⟨Nat.le_of_ble_eq_true rfl, Nat.le_of_ble_eq_true rfl⟩ (fun E hE => ?_) (fun r5 S5 hp5 => ?_)
  · obtain ⟨hA1, rfl⟩ := hE
    refine q_catch (name := "") F [] (⟨0, 9, 12, 21⟩ : ExceptionTableEntry) [] ht (fun z hz => nomatch hz) (by decide) (by decide) (List.mem_of_getElem? (i := 125) (by decide +kernel)) (by decide) (fun q => ?_)
    refine q_astore_n F 3 dL_remove_12 rfl (by decide) rfl ?_
    refine q_iconst F dL_remove_13 hc_1 ?_
    exact q_retiO F hr dL_remove_14 (Nat.le_of_ble_eq_true rfl) (Nat.le_of_ble_eq_true rfl) (Or.inl ⟨hA1, rfl, rfl⟩)
  refine q_i2l F dL_remove_7 ?_
  refine q_last F dL_remove_8 (fun f1 hf1 => ?_)
  refine q_goto F 15 dL_remove_9 rfl ?_
  refine q_iconst F dL_remove_15 hc_0 ?_
  exact q_retiO F hr dL_remove_16 (Nat.le_of_ble_eq_true rfl) (Nat.le_of_ble_eq_true rfl) (Or.inr (⟨rfl, ⟨r5, hf1, hp5⟩⟩))

set_option maxHeartbeats 4000000 in
set_option maxRecDepth 100000 in
theorem c_L_certify {l : Launch} {g : hG} {X0 : va_W} {o : Nat} {f : Nat → Int64} {S : hS} (hst : l.stackTraces = false) {h bk ca sa : Nat} {ad pa : Nat → Nat} {sc : Nat → Int32} {M : Nat → Nat → Int32} {n nc ns : Nat} (hG : cG S h bk ca sa ad pa) (hC : cC S h ca sa ad pa sc M n nc ns) {au key name places serial first last : Int32} : hMetO l yL_certify wsL_certify rm_L_certify g X0 o f S [.ref h, .int au, .int key, .int name, .int places, .int serial, .int first, .int last, .ref o] (pw2 S (okK au && okK key && okN name && inR places 0 15 && inR serial 0 999 && inR first 0 5000 && inR last first 5000) (decide (nc < 20)) (fun w S' => ∃ v : Int32, w = v.toInt64 ∧ ((okK au && okK key && okN name && inR places 0 15 && inR serial 0 999 && inR first 0 5000 && inR last first 5000) = true ∧ nc < 20) ∧ v = nI nc ∧ cP S S' h bk ca sa ad pa (va_up sc 17 (nI (nc + 1))) (aCert M nc au key name places serial first last) n (nc + 1) ns)) := by
  refine h_startO (maxL := 10) (ret := (some .int)) (by decide) rfl (Nat.le_of_ble_eq_true rfl) ?_
  intro p e s m args below meth c F hr ht
  refine q_aload F dL_certify_0 rfl ?_
  refine q_iconst F dL_certify_2 hc_0 ?_
  refine q_aload_n F 0 dL_certify_3 rfl rfl ?_
  refine q_iload_n F 1 dL_certify_4 rfl rfl ?_
  refine q_iload_n F 2 dL_certify_5 rfl rfl ?_
  refine q_iload_n F 3 dL_certify_6 rfl rfl ?_
  refine q_iload F dL_certify_7 rfl ?_
  refine q_iload F dL_certify_9 rfl ?_
  refine q_iload F dL_certify_11 rfl ?_
  refine q_iload F dL_certify_13 rfl ?_
  refine q_callVX_gi F (c_X4_certify hst hG hC) gL_certify_X4_certify rfl hd_X4_certify ⟨Nat.le_of_ble_eq_true rfl, Nat.le_of_ble_eq_true rfl⟩ hG.1 rfl rfl rfl (Nat.le_of_ble_eq_true rfl) dL_certify_15 ⟨Nat.le_of_ble_eq_true rfl, Nat.le_of_ble_eq_true rfl⟩ (fun E hE => ?_) (fun r5 S5 hp5 => ?_)
  · rcases hE with ⟨hA1, rfl⟩ | ⟨hA1, hA2, rfl⟩
    · skip
      refine q_catch (name := "") F [] (⟨0, 20, 23, 13⟩ : ExceptionTableEntry) [(⟨0, 20, 27, 15⟩ : ExceptionTableEntry)] ht (fun z hz => nomatch hz) (by decide) (by decide) (List.mem_of_getElem? (i := 62) (by decide +kernel)) (by decide) (fun q => ?_)
      refine q_astore F dL_certify_23 (by decide) rfl ?_
      refine q_iconst F dL_certify_25 hc_1 ?_
      exact q_retiO F hr dL_certify_26 (Nat.le_of_ble_eq_true rfl) (Nat.le_of_ble_eq_true rfl) (Or.inl ⟨hA1, rfl, rfl⟩)
    · skip
      refine q_catch (name := "") F [(⟨0, 20, 23, 13⟩ : ExceptionTableEntry)] (⟨0, 20, 27, 15⟩ : ExceptionTableEntry) [] ht (fun z hz => by rcases List.mem_cons.mp hz with rfl | hz; exact ⟨by decide, xIA, (List.mem_of_getElem? (i := 62) (by decide +kernel)), by decide, by decide⟩; exact nomatch hz) (by decide) (by decide) (List.mem_of_getElem? (i := 63) (by decide +kernel)) (by decide) (fun q => ?_)
      refine q_astore F dL_certify_27 (by decide) rfl ?_
      refine q_iconst F dL_certify_29 hc_2 ?_
      exact q_retiO F hr dL_certify_30 (Nat.le_of_ble_eq_true rfl) (Nat.le_of_ble_eq_true rfl) (Or.inr (Or.inl ⟨hA1, hA2, rfl, rfl⟩))
  refine q_i2l F dL_certify_18 ?_
  refine q_last F dL_certify_19 (fun f1 hf1 => ?_)
  refine q_goto F 31 dL_certify_20 rfl ?_
  refine q_iconst F dL_certify_31 hc_0 ?_
  exact q_retiO F hr dL_certify_32 (Nat.le_of_ble_eq_true rfl) (Nat.le_of_ble_eq_true rfl) (Or.inr (Or.inr (⟨rfl, ⟨r5, hf1, hp5⟩⟩)))

set_option maxHeartbeats 4000000 in
set_option maxRecDepth 100000 in
theorem c_L_revokeSpan {l : Launch} {g : hG} {X0 : va_W} {o : Nat} {f : Nat → Int64} {S : hS} (hst : l.stackTraces = false) {h bk ca sa : Nat} {ad pa : Nat → Nat} {sc : Nat → Int32} {M : Nat → Nat → Int32} {n nc ns : Nat} (hG : cG S h bk ca sa ad pa) (hC : cC S h ca sa ad pa sc M n nc ns) {au fr to : Int32} : hMetO l yL_revokeSpan wsL_revokeSpan rm_L_revokeSpan g X0 o f S [.ref h, .int au, .int fr, .int to, .ref o] (pw2 S (okK au && inR fr 0 999 && inR to fr 999) (decide (ns < 20)) (fun w S' => ∃ v : Int32, w = v.toInt64 ∧ ((okK au && inR fr 0 999 && inR to fr 999) = true ∧ ns < 20) ∧ v = cntN (rv (aSpan M ns au fr to) (ns + 1)) nc ∧ cP S S' h bk ca sa ad pa (va_up sc 25 (nI (ns + 1))) (aSpan M ns au fr to) n nc (ns + 1))) := by
  refine h_startO (maxL := 6) (ret := (some .int)) (by decide) rfl (Nat.le_of_ble_eq_true rfl) ?_
  intro p e s m args below meth c F hr ht
  refine q_aload F dL_revokeSpan_0 rfl ?_
  refine q_iconst F dL_revokeSpan_2 hc_0 ?_
  refine q_aload_n F 0 dL_revokeSpan_3 rfl rfl ?_
  refine q_iload_n F 1 dL_revokeSpan_4 rfl rfl ?_
  refine q_iload_n F 2 dL_revokeSpan_5 rfl rfl ?_
  refine q_iload_n F 3 dL_revokeSpan_6 rfl rfl ?_
  refine q_callVX_gi F (c_X4_revokeSpan hst hG hC) gL_revokeSpan_X4_revokeSpan rfl hd_X4_revokeSpan ⟨Nat.le_of_ble_eq_true rfl, Nat.le_of_ble_eq_true rfl⟩ hG.1 rfl rfl rfl (Nat.le_of_ble_eq_true rfl) dL_revokeSpan_7 ⟨Nat.le_of_ble_eq_true rfl, Nat.le_of_ble_eq_true rfl⟩ (fun E hE => ?_) (fun r5 S5 hp5 => ?_)
  · rcases hE with ⟨hA1, rfl⟩ | ⟨hA1, hA2, rfl⟩
    · skip
      refine q_catch (name := "") F [] (⟨0, 12, 15, 13⟩ : ExceptionTableEntry) [(⟨0, 12, 19, 15⟩ : ExceptionTableEntry)] ht (fun z hz => nomatch hz) (by decide) (by decide) (List.mem_of_getElem? (i := 62) (by decide +kernel)) (by decide) (fun q => ?_)
      refine q_astore F dL_revokeSpan_15 (by decide) rfl ?_
      refine q_iconst F dL_revokeSpan_17 hc_1 ?_
      exact q_retiO F hr dL_revokeSpan_18 (Nat.le_of_ble_eq_true rfl) (Nat.le_of_ble_eq_true rfl) (Or.inl ⟨hA1, rfl, rfl⟩)
    · skip
      refine q_catch (name := "") F [(⟨0, 12, 15, 13⟩ : ExceptionTableEntry)] (⟨0, 12, 19, 15⟩ : ExceptionTableEntry) [] ht (fun z hz => by rcases List.mem_cons.mp hz with rfl | hz; exact ⟨by decide, xIA, (List.mem_of_getElem? (i := 62) (by decide +kernel)), by decide, by decide⟩; exact nomatch hz) (by decide) (by decide) (List.mem_of_getElem? (i := 63) (by decide +kernel)) (by decide) (fun q => ?_)
      refine q_astore F dL_revokeSpan_19 (by decide) rfl ?_
      refine q_iconst F dL_revokeSpan_21 hc_2 ?_
      exact q_retiO F hr dL_revokeSpan_22 (Nat.le_of_ble_eq_true rfl) (Nat.le_of_ble_eq_true rfl) (Or.inr (Or.inl ⟨hA1, hA2, rfl, rfl⟩))
  refine q_i2l F dL_revokeSpan_10 ?_
  refine q_last F dL_revokeSpan_11 (fun f1 hf1 => ?_)
  refine q_goto F 23 dL_revokeSpan_12 rfl ?_
  refine q_iconst F dL_revokeSpan_23 hc_0 ?_
  exact q_retiO F hr dL_revokeSpan_24 (Nat.le_of_ble_eq_true rfl) (Nat.le_of_ble_eq_true rfl) (Or.inr (Or.inr (⟨rfl, ⟨r5, hf1, hp5⟩⟩)))

set_option maxHeartbeats 4000000 in
set_option maxRecDepth 100000 in
theorem c_L_setFirstSight {l : Launch} {g : hG} {X0 : va_W} {o : Nat} {f : Nat → Int64} {S : hS} (hst : l.stackTraces = false) {h bk ca sa : Nat} {ad pa : Nat → Nat} {sc : Nat → Int32} {M : Nat → Nat → Int32} {n nc ns : Nat} (hG : cG S h bk ca sa ad pa) (hC : cC S h ca sa ad pa sc M n nc ns) {rule b : Int32} (hB : isB b) : hMetO l yL_setFirstSight wsL_setFirstSight rm_L_setFirstSight g X0 o f S [.ref h, .int rule, .int b, .ref o] (pw1 S 1 (inR rule 0 2) (fun w S' => ∃ v : Int32, w = v.toInt64 ∧ inR rule 0 2 = true ∧ v = sc 2 ∧ cP S S' h bk ca sa ad pa (aSight sc rule b) M n nc ns)) := by
  refine h_startO (maxL := 5) (ret := (some .int)) (by decide) rfl (Nat.le_of_ble_eq_true rfl) ?_
  intro p e s m args below meth c F hr ht
  refine q_aload_n F 3 dL_setFirstSight_0 rfl rfl ?_
  refine q_iconst F dL_setFirstSight_1 hc_0 ?_
  refine q_aload_n F 0 dL_setFirstSight_2 rfl rfl ?_
  refine q_iload_n F 1 dL_setFirstSight_3 rfl rfl ?_
  refine q_iload_n F 2 dL_setFirstSight_4 rfl rfl ?_
  refine q_callVX_gi F (c_X4_setFirstSight hst hG hC hB) gL_setFirstSight_X4_setFirstSight rfl hd_X4_setFirstSight ⟨Nat.le_of_ble_eq_true rfl, Nat.le_of_ble_eq_true rfl⟩ hG.1 rfl rfl rfl (Nat.le_of_ble_eq_true rfl) dL_setFirstSight_5 ⟨Nat.le_of_ble_eq_true rfl, Nat.le_of_ble_eq_true rfl⟩ (fun E hE => ?_) (fun r5 S5 hp5 => ?_)
  · obtain ⟨hA1, rfl⟩ := hE
    refine q_catch (name := "") F [] (⟨0, 10, 13, 13⟩ : ExceptionTableEntry) [] ht (fun z hz => nomatch hz) (by decide) (by decide) (List.mem_of_getElem? (i := 62) (by decide +kernel)) (by decide) (fun q => ?_)
    refine q_astore F dL_setFirstSight_13 (by decide) rfl ?_
    refine q_iconst F dL_setFirstSight_15 hc_1 ?_
    exact q_retiO F hr dL_setFirstSight_16 (Nat.le_of_ble_eq_true rfl) (Nat.le_of_ble_eq_true rfl) (Or.inl ⟨hA1, rfl, rfl⟩)
  refine q_i2l F dL_setFirstSight_8 ?_
  refine q_last F dL_setFirstSight_9 (fun f1 hf1 => ?_)
  refine q_goto F 17 dL_setFirstSight_10 rfl ?_
  refine q_iconst F dL_setFirstSight_17 hc_0 ?_
  exact q_retiO F hr dL_setFirstSight_18 (Nat.le_of_ble_eq_true rfl) (Nat.le_of_ble_eq_true rfl) (Or.inr (⟨rfl, ⟨r5, hf1, hp5⟩⟩))

set_option maxHeartbeats 4000000 in
set_option maxRecDepth 100000 in
theorem c_L_answer {l : Launch} {g : hG} {X0 : va_W} {o : Nat} {f : Nat → Int64} {S : hS} (hst : l.stackTraces = false) {h bk ca sa : Nat} {ad pa : Nat → Nat} {sc : Nat → Int32} {M : Nat → Nat → Int32} {n nc ns : Nat} (hG : cG S h bk ca sa ad pa) (hC : cC S h ca sa ad pa sc M n nc ns) {name port key ct : Int32} (hi : ¬ ct = -1) : hMetO l yL_answer wsL_answer rm_L_answer g X0 o f S [.ref h, .int name, .int port, .int key, .int ct, .ref o] (pw2 S (inL ct nc) (okNP name port && okK key) (fun w S' => ∃ v : Int32, w = v.toInt64 ∧ (inL ct nc = true ∧ (okNP name port && okK key) = true) ∧ v = (jo (sc 1) M n ns name port key ct.toNatClampNeg) ∧ cP S S' h bk ca sa ad pa (scN (aW sc (jo (sc 1) M n ns name port key ct.toNatClampNeg) name port key) (aAns sc M n (jo (sc 1) M n ns name port key ct.toNatClampNeg) (M 18 ct.toNatClampNeg) name port key).2) (aAns sc M n (jo (sc 1) M n ns name port key ct.toNatClampNeg) (M 18 ct.toNatClampNeg) name port key).1 (aAns sc M n (jo (sc 1) M n ns name port key ct.toNatClampNeg) (M 18 ct.toNatClampNeg) name port key).2 nc ns)) := by
  refine h_startO (maxL := 7) (ret := (some .int)) (by decide) rfl (Nat.le_of_ble_eq_true rfl) ?_
  intro p e s m args below meth c F hr ht
  refine q_aload F dL_answer_0 rfl ?_
  refine q_iconst F dL_answer_2 hc_0 ?_
  refine q_aload_n F 0 dL_answer_3 rfl rfl ?_
  refine q_iload_n F 1 dL_answer_4 rfl rfl ?_
  refine q_iload_n F 2 dL_answer_5 rfl rfl ?_
  refine q_iload_n F 3 dL_answer_6 rfl rfl ?_
  refine q_iload F dL_answer_7 rfl ?_
  refine q_callVX_gi F (c_X4_answer hst hG hC hi) gL_answer_X4_answer rfl hd_X4_answer ⟨Nat.le_of_ble_eq_true rfl, Nat.le_of_ble_eq_true rfl⟩ hG.1 rfl rfl rfl (Nat.le_of_ble_eq_true rfl) dL_answer_9 ⟨Nat.le_of_ble_eq_true rfl, Nat.le_of_ble_eq_true rfl⟩ (fun E hE => ?_) (fun r5 S5 hp5 => ?_)
  · rcases hE with ⟨hA1, rfl⟩ | ⟨hA1, hA2, rfl⟩
    · skip
      refine q_catch (name := "") F [] (⟨0, 14, 17, 21⟩ : ExceptionTableEntry) [(⟨0, 14, 21, 13⟩ : ExceptionTableEntry)] ht (fun z hz => nomatch hz) (by decide) (by decide) (List.mem_of_getElem? (i := 125) (by decide +kernel)) (by decide) (fun q => ?_)
      refine q_astore F dL_answer_17 (by decide) rfl ?_
      refine q_iconst F dL_answer_19 hc_1 ?_
      exact q_retiO F hr dL_answer_20 (Nat.le_of_ble_eq_true rfl) (Nat.le_of_ble_eq_true rfl) (Or.inl ⟨hA1, rfl, rfl⟩)
    · skip
      refine q_catch (name := "") F [(⟨0, 14, 17, 21⟩ : ExceptionTableEntry)] (⟨0, 14, 21, 13⟩ : ExceptionTableEntry) [] ht (fun z hz => by rcases List.mem_cons.mp hz with rfl | hz; exact ⟨by decide, xIO, (List.mem_of_getElem? (i := 125) (by decide +kernel)), by decide, by decide⟩; exact nomatch hz) (by decide) (by decide) (List.mem_of_getElem? (i := 62) (by decide +kernel)) (by decide) (fun q => ?_)
      refine q_astore F dL_answer_21 (by decide) rfl ?_
      refine q_iconst F dL_answer_23 hc_2 ?_
      exact q_retiO F hr dL_answer_24 (Nat.le_of_ble_eq_true rfl) (Nat.le_of_ble_eq_true rfl) (Or.inr (Or.inl ⟨hA1, hA2, rfl, rfl⟩))
  refine q_i2l F dL_answer_12 ?_
  refine q_last F dL_answer_13 (fun f1 hf1 => ?_)
  refine q_goto F 25 dL_answer_14 rfl ?_
  refine q_iconst F dL_answer_25 hc_0 ?_
  exact q_retiO F hr dL_answer_26 (Nat.le_of_ble_eq_true rfl) (Nat.le_of_ble_eq_true rfl) (Or.inr (Or.inr (⟨rfl, ⟨r5, hf1, hp5⟩⟩)))

set_option maxHeartbeats 4000000 in
set_option maxRecDepth 100000 in
theorem c_L_answer_n {l : Launch} {g : hG} {X0 : va_W} {o : Nat} {f : Nat → Int64} {S : hS} (hst : l.stackTraces = false) {h bk ca sa : Nat} {ad pa : Nat → Nat} {sc : Nat → Int32} {M : Nat → Nat → Int32} {n nc ns : Nat} (hG : cG S h bk ca sa ad pa) (hC : cC S h ca sa ad pa sc M n nc ns) {name port key : Int32} : hMetO l yL_answer wsL_answer rm_L_answer g X0 o f S [.ref h, .int name, .int port, .int key, .int (-1), .ref o] (pw1 S 2 (okNP name port && okK key) (fun w S' => ∃ v : Int32, w = v.toInt64 ∧ (okNP name port && okK key) = true ∧ v = (jb (sc 1) M name port key (-1) n) ∧ cP S S' h bk ca sa ad pa (scN (aW sc (jb (sc 1) M name port key (-1) n) name port key) (aAns sc M n (jb (sc 1) M name port key (-1) n) (-1) name port key).2) (aAns sc M n (jb (sc 1) M name port key (-1) n) (-1) name port key).1 (aAns sc M n (jb (sc 1) M name port key (-1) n) (-1) name port key).2 nc ns)) := by
  refine h_startO (maxL := 7) (ret := (some .int)) (by decide) rfl (Nat.le_of_ble_eq_true rfl) ?_
  intro p e s m args below meth c F hr ht
  refine q_aload F dL_answer_0 rfl ?_
  refine q_iconst F dL_answer_2 hc_0 ?_
  refine q_aload_n F 0 dL_answer_3 rfl rfl ?_
  refine q_iload_n F 1 dL_answer_4 rfl rfl ?_
  refine q_iload_n F 2 dL_answer_5 rfl rfl ?_
  refine q_iload_n F 3 dL_answer_6 rfl rfl ?_
  refine q_iload F dL_answer_7 rfl ?_
  refine q_callVX_gi F (c_X4_answer_n hst hG hC) gL_answer_X4_answer rfl hd_X4_answer ⟨Nat.le_of_ble_eq_true rfl, Nat.le_of_ble_eq_true rfl⟩ hG.1 rfl rfl rfl (Nat.le_of_ble_eq_true rfl) dL_answer_9 ⟨Nat.le_of_ble_eq_true rfl, Nat.le_of_ble_eq_true rfl⟩ (fun E hE => ?_) (fun r5 S5 hp5 => ?_)
  · obtain ⟨hA1, rfl⟩ := hE
    refine q_catch (name := "") F [(⟨0, 14, 17, 21⟩ : ExceptionTableEntry)] (⟨0, 14, 21, 13⟩ : ExceptionTableEntry) [] ht (fun z hz => by rcases List.mem_cons.mp hz with rfl | hz; exact ⟨by decide, xIO, (List.mem_of_getElem? (i := 125) (by decide +kernel)), by decide, by decide⟩; exact nomatch hz) (by decide) (by decide) (List.mem_of_getElem? (i := 62) (by decide +kernel)) (by decide) (fun q => ?_)
    refine q_astore F dL_answer_21 (by decide) rfl ?_
    refine q_iconst F dL_answer_23 hc_2 ?_
    exact q_retiO F hr dL_answer_24 (Nat.le_of_ble_eq_true rfl) (Nat.le_of_ble_eq_true rfl) (Or.inl ⟨hA1, rfl, rfl⟩)
  refine q_i2l F dL_answer_12 ?_
  refine q_last F dL_answer_13 (fun f1 hf1 => ?_)
  refine q_goto F 25 dL_answer_14 rfl ?_
  refine q_iconst F dL_answer_25 hc_0 ?_
  exact q_retiO F hr dL_answer_26 (Nat.le_of_ble_eq_true rfl) (Nat.le_of_ble_eq_true rfl) (Or.inr (⟨rfl, ⟨r5, hf1, hp5⟩⟩))

set_option maxHeartbeats 4000000 in
set_option maxRecDepth 100000 in
theorem c_L_confirm {l : Launch} {g : hG} {X0 : va_W} {o : Nat} {f : Nat → Int64} {S : hS} (hst : l.stackTraces = false) {h bk ca sa : Nat} {ad pa : Nat → Nat} {sc : Nat → Int32} {M : Nat → Nat → Int32} {n nc ns : Nat} (hG : cG S h bk ca sa ad pa) (hC : cC S h ca sa ad pa sc M n nc ns) (hV : ¬ sc 29 = -1 → okN (sc 30) = true ∧ okK (sc 29) = true) : hMetO l yL_confirm wsL_confirm rm_L_confirm g X0 o f S [.ref h, .ref o] (pw1 S 1 (decide (¬ sc 29 = -1) && decide (n < 40)) (fun w S' => ∃ v : Int32, w = v.toInt64 ∧ (decide (¬ sc 29 = -1) && decide (n < 40)) = true ∧ v = nI n ∧ cP S S' h bk ca sa ad pa (va_up (scN sc (n + 1)) 29 (-1)) (aTr sc M n (sc 30) (sc 31) (sc 29)) (n + 1) nc ns)) := by
  refine h_startO (maxL := 3) (ret := (some .int)) (by decide) rfl (Nat.le_of_ble_eq_true rfl) ?_
  intro p e s m args below meth c F hr ht
  refine q_aload_n F 1 dL_confirm_0 rfl rfl ?_
  refine q_iconst F dL_confirm_1 hc_0 ?_
  refine q_aload_n F 0 dL_confirm_2 rfl rfl ?_
  refine q_callVX_gi F (c_X4_confirm hst hG hC hV) gL_confirm_X4_confirm rfl hd_X4_confirm ⟨Nat.le_of_ble_eq_true rfl, Nat.le_of_ble_eq_true rfl⟩ hG.1 rfl rfl rfl (Nat.le_of_ble_eq_true rfl) dL_confirm_3 ⟨Nat.le_of_ble_eq_true rfl, Nat.le_of_ble_eq_true rfl⟩ (fun E hE => ?_) (fun r5 S5 hp5 => ?_)
  · obtain ⟨hA1, rfl⟩ := hE
    refine q_catch (name := "") F [] (⟨0, 8, 11, 15⟩ : ExceptionTableEntry) [] ht (fun z hz => nomatch hz) (by decide) (by decide) (List.mem_of_getElem? (i := 63) (by decide +kernel)) (by decide) (fun q => ?_)
    refine q_astore_n F 2 dL_confirm_11 rfl (by decide) rfl ?_
    refine q_iconst F dL_confirm_12 hc_1 ?_
    exact q_retiO F hr dL_confirm_13 (Nat.le_of_ble_eq_true rfl) (Nat.le_of_ble_eq_true rfl) (Or.inl ⟨hA1, rfl, rfl⟩)
  refine q_i2l F dL_confirm_6 ?_
  refine q_last F dL_confirm_7 (fun f1 hf1 => ?_)
  refine q_goto F 14 dL_confirm_8 rfl ?_
  refine q_iconst F dL_confirm_14 hc_0 ?_
  exact q_retiO F hr dL_confirm_15 (Nat.le_of_ble_eq_true rfl) (Nat.le_of_ble_eq_true rfl) (Or.inr (⟨rfl, ⟨r5, hf1, hp5⟩⟩))

set_option maxHeartbeats 4000000 in
set_option maxRecDepth 100000 in
theorem c_L_turn {l : Launch} {g : hG} {X0 : va_W} {o : Nat} {f : Nat → Int64} {S : hS} (hst : l.stackTraces = false) {h bk ca sa : Nat} {ad pa : Nat → Nat} {sc : Nat → Int32} {M : Nat → Nat → Int32} {n nc ns : Nat} (hG : cG S h bk ca sa ad pa) (hC : cC S h ca sa ad pa sc M n nc ns) {name port old other days : Int32} : hMetO l yL_turn wsL_turn rm_L_turn g X0 o f S [.ref h, .int name, .int port, .int old, .int other, .int days, .ref o] (pw2 S (okNP name port && okK old && okK other && inR days 0 1000 && !decide (old = other)) (decide (jb (sc 1) M name port old (-1) n = 2) && !decide (jb (sc 1) M name port other (-1) n = 0)) (fun w S' => ∃ v : Int32, w = v.toInt64 ∧ ((okNP name port && okK old && okK other && inR days 0 1000 && !decide (old = other)) = true ∧ (decide (jb (sc 1) M name port old (-1) n = 2) && !decide (jb (sc 1) M name port other (-1) n = 0)) = true) ∧ v = nI ((tl (sc 1) name port old other days (M, n) n).2 - n) ∧ cP S S' h bk ca sa ad pa (scN sc (tl (sc 1) name port old other days (M, n) n).2) (tl (sc 1) name port old other days (M, n) n).1 (tl (sc 1) name port old other days (M, n) n).2 nc ns)) := by
  refine h_startO (maxL := 8) (ret := (some .int)) (by decide) rfl (Nat.le_of_ble_eq_true rfl) ?_
  intro p e s m args below meth c F hr ht
  refine q_aload F dL_turn_0 rfl ?_
  refine q_iconst F dL_turn_2 hc_0 ?_
  refine q_aload_n F 0 dL_turn_3 rfl rfl ?_
  refine q_iload_n F 1 dL_turn_4 rfl rfl ?_
  refine q_iload_n F 2 dL_turn_5 rfl rfl ?_
  refine q_iload_n F 3 dL_turn_6 rfl rfl ?_
  refine q_iload F dL_turn_7 rfl ?_
  refine q_iload F dL_turn_9 rfl ?_
  refine q_callVX_gi F (c_X4_turn hst hG hC) gL_turn_X4_turn rfl hd_X4_turn ⟨Nat.le_of_ble_eq_true rfl, Nat.le_of_ble_eq_true rfl⟩ hG.1 rfl rfl rfl (Nat.le_of_ble_eq_true rfl) dL_turn_11 ⟨Nat.le_of_ble_eq_true rfl, Nat.le_of_ble_eq_true rfl⟩ (fun E hE => ?_) (fun r5 S5 hp5 => ?_)
  · rcases hE with ⟨hA1, rfl⟩ | ⟨hA1, hA2, rfl⟩
    · skip
      refine q_catch (name := "") F [] (⟨0, 16, 19, 13⟩ : ExceptionTableEntry) [(⟨0, 16, 23, 15⟩ : ExceptionTableEntry)] ht (fun z hz => nomatch hz) (by decide) (by decide) (List.mem_of_getElem? (i := 62) (by decide +kernel)) (by decide) (fun q => ?_)
      refine q_astore F dL_turn_19 (by decide) rfl ?_
      refine q_iconst F dL_turn_21 hc_1 ?_
      exact q_retiO F hr dL_turn_22 (Nat.le_of_ble_eq_true rfl) (Nat.le_of_ble_eq_true rfl) (Or.inl ⟨hA1, rfl, rfl⟩)
    · skip
      refine q_catch (name := "") F [(⟨0, 16, 19, 13⟩ : ExceptionTableEntry)] (⟨0, 16, 23, 15⟩ : ExceptionTableEntry) [] ht (fun z hz => by rcases List.mem_cons.mp hz with rfl | hz; exact ⟨by decide, xIA, (List.mem_of_getElem? (i := 62) (by decide +kernel)), by decide, by decide⟩; exact nomatch hz) (by decide) (by decide) (List.mem_of_getElem? (i := 63) (by decide +kernel)) (by decide) (fun q => ?_)
      refine q_astore F dL_turn_23 (by decide) rfl ?_
      refine q_iconst F dL_turn_25 hc_2 ?_
      exact q_retiO F hr dL_turn_26 (Nat.le_of_ble_eq_true rfl) (Nat.le_of_ble_eq_true rfl) (Or.inr (Or.inl ⟨hA1, hA2, rfl, rfl⟩))
  refine q_i2l F dL_turn_14 ?_
  refine q_last F dL_turn_15 (fun f1 hf1 => ?_)
  refine q_goto F 27 dL_turn_16 rfl ?_
  refine q_iconst F dL_turn_27 hc_0 ?_
  exact q_retiO F hr dL_turn_28 (Nat.le_of_ble_eq_true rfl) (Nat.le_of_ble_eq_true rfl) (Or.inr (Or.inr (⟨rfl, ⟨r5, hf1, hp5⟩⟩)))

set_option maxHeartbeats 4000000 in
set_option maxRecDepth 100000 in
theorem c_L_pass {l : Launch} {g : hG} {X0 : va_W} {o : Nat} {f : Nat → Int64} {S : hS} (hst : l.stackTraces = false) {h bk ca sa : Nat} {ad pa : Nat → Nat} {sc : Nat → Int32} {M : Nat → Nat → Int32} {n nc ns : Nat} (hG : cG S h bk ca sa ad pa) (hC : cC S h ca sa ad pa sc M n nc ns) {days : Int32} : hMetO l yL_pass wsL_pass rm_L_pass g X0 o f S [.ref h, .int days, .ref o] (pw2 S (inR days 1 1000) (decide (sc 1 + days ≤ 5000)) (fun w S' => ∃ v : Int32, w = v.toInt64 ∧ (inR days 1 1000 = true ∧ sc 1 + days ≤ 5000) ∧ v = sc 1 + days ∧ cP S S' h bk ca sa ad pa (va_up sc 1 (sc 1 + days)) M n nc ns)) := by
  refine h_startO (maxL := 4) (ret := (some .int)) (by decide) rfl (Nat.le_of_ble_eq_true rfl) ?_
  intro p e s m args below meth c F hr ht
  refine q_aload_n F 2 dL_pass_0 rfl rfl ?_
  refine q_iconst F dL_pass_1 hc_0 ?_
  refine q_aload_n F 0 dL_pass_2 rfl rfl ?_
  refine q_iload_n F 1 dL_pass_3 rfl rfl ?_
  refine q_callVX_gi F (c_X4_pass hst hG hC) gL_pass_X4_pass rfl hd_X4_pass ⟨Nat.le_of_ble_eq_true rfl, Nat.le_of_ble_eq_true rfl⟩ hG.1 rfl rfl rfl (Nat.le_of_ble_eq_true rfl) dL_pass_4 ⟨Nat.le_of_ble_eq_true rfl, Nat.le_of_ble_eq_true rfl⟩ (fun E hE => ?_) (fun r5 S5 hp5 => ?_)
  · rcases hE with ⟨hA1, rfl⟩ | ⟨hA1, hA2, rfl⟩
    · skip
      refine q_catch (name := "") F [] (⟨0, 9, 12, 13⟩ : ExceptionTableEntry) [(⟨0, 9, 15, 15⟩ : ExceptionTableEntry)] ht (fun z hz => nomatch hz) (by decide) (by decide) (List.mem_of_getElem? (i := 62) (by decide +kernel)) (by decide) (fun q => ?_)
      refine q_astore_n F 3 dL_pass_12 rfl (by decide) rfl ?_
      refine q_iconst F dL_pass_13 hc_1 ?_
      exact q_retiO F hr dL_pass_14 (Nat.le_of_ble_eq_true rfl) (Nat.le_of_ble_eq_true rfl) (Or.inl ⟨hA1, rfl, rfl⟩)
    · skip
      refine q_catch (name := "") F [(⟨0, 9, 12, 13⟩ : ExceptionTableEntry)] (⟨0, 9, 15, 15⟩ : ExceptionTableEntry) [] ht (fun z hz => by rcases List.mem_cons.mp hz with rfl | hz; exact ⟨by decide, xIA, (List.mem_of_getElem? (i := 62) (by decide +kernel)), by decide, by decide⟩; exact nomatch hz) (by decide) (by decide) (List.mem_of_getElem? (i := 63) (by decide +kernel)) (by decide) (fun q => ?_)
      refine q_astore_n F 3 dL_pass_15 rfl (by decide) rfl ?_
      refine q_iconst F dL_pass_16 hc_2 ?_
      exact q_retiO F hr dL_pass_17 (Nat.le_of_ble_eq_true rfl) (Nat.le_of_ble_eq_true rfl) (Or.inr (Or.inl ⟨hA1, hA2, rfl, rfl⟩))
  refine q_i2l F dL_pass_7 ?_
  refine q_last F dL_pass_8 (fun f1 hf1 => ?_)
  refine q_goto F 18 dL_pass_9 rfl ?_
  refine q_iconst F dL_pass_18 hc_0 ?_
  exact q_retiO F hr dL_pass_19 (Nat.le_of_ble_eq_true rfl) (Nat.le_of_ble_eq_true rfl) (Or.inr (Or.inr (⟨rfl, ⟨r5, hf1, hp5⟩⟩)))

set_option maxHeartbeats 4000000 in
set_option maxRecDepth 100000 in
theorem c_L_clean {l : Launch} {g : hG} {X0 : va_W} {o : Nat} {f : Nat → Int64} {S : hS} (hst : l.stackTraces = false) {h bk ca sa : Nat} {ad pa : Nat → Nat} {sc : Nat → Int32} {M : Nat → Nat → Int32} {n nc ns : Nat} (hG : cG S h bk ca sa ad pa) (hC : cC S h ca sa ad pa sc M n nc ns) {days : Int32} : hMetO l yL_clean wsL_clean rm_L_clean g X0 o f S [.ref h, .int days, .ref o] (pw1 S 1 (inR days 1 5000) (fun w S' => ∃ v : Int32, w = v.toInt64 ∧ inR days 1 5000 = true ∧ v = nI (n - (cl (sc 1) days n (M, n)).2) ∧ ∃ ad', cP S S' h bk ca sa ad' pa (scN sc (cl (sc 1) days n (M, n)).2) (cl (sc 1) days n (M, n)).1 (cl (sc 1) days n (M, n)).2 nc ns)) := by
  refine h_startO (maxL := 4) (ret := (some .int)) (by decide) rfl (Nat.le_of_ble_eq_true rfl) ?_
  intro p e s m args below meth c F hr ht
  refine q_aload_n F 2 dL_clean_0 rfl rfl ?_
  refine q_iconst F dL_clean_1 hc_0 ?_
  refine q_aload_n F 0 dL_clean_2 rfl rfl ?_
  refine q_iload_n F 1 dL_clean_3 rfl rfl ?_
  refine q_callVX_gi F (c_X4_clean hst hG hC) gL_clean_X4_clean rfl hd_X4_clean ⟨Nat.le_of_ble_eq_true rfl, Nat.le_of_ble_eq_true rfl⟩ hG.1 rfl rfl rfl (Nat.le_of_ble_eq_true rfl) dL_clean_4 ⟨Nat.le_of_ble_eq_true rfl, Nat.le_of_ble_eq_true rfl⟩ (fun E hE => ?_) (fun r5 S5 hp5 => ?_)
  · obtain ⟨hA1, rfl⟩ := hE
    refine q_catch (name := "") F [] (⟨0, 9, 12, 13⟩ : ExceptionTableEntry) [] ht (fun z hz => nomatch hz) (by decide) (by decide) (List.mem_of_getElem? (i := 62) (by decide +kernel)) (by decide) (fun q => ?_)
    refine q_astore_n F 3 dL_clean_12 rfl (by decide) rfl ?_
    refine q_iconst F dL_clean_13 hc_1 ?_
    exact q_retiO F hr dL_clean_14 (Nat.le_of_ble_eq_true rfl) (Nat.le_of_ble_eq_true rfl) (Or.inl ⟨hA1, rfl, rfl⟩)
  refine q_i2l F dL_clean_7 ?_
  refine q_last F dL_clean_8 (fun f1 hf1 => ?_)
  refine q_goto F 15 dL_clean_9 rfl ?_
  refine q_iconst F dL_clean_15 hc_0 ?_
  exact q_retiO F hr dL_clean_16 (Nat.le_of_ble_eq_true rfl) (Nat.le_of_ble_eq_true rfl) (Or.inr (⟨rfl, ⟨r5, hf1, hp5⟩⟩))

set_option maxHeartbeats 4000000 in
set_option maxRecDepth 100000 in
theorem c_L_judge {l : Launch} {g : hG} {X0 : va_W} {o : Nat} {f : Nat → Int64} {S : hS} (hst : l.stackTraces = false) {h bk ca sa : Nat} {ad pa : Nat → Nat} {sc : Nat → Int32} {M : Nat → Nat → Int32} {n nc ns : Nat} (hG : cG S h bk ca sa ad pa) (hC : cC S h ca sa ad pa sc M n nc ns) {name port key ct : Int32} (hi : ¬ ct = -1) : hMetO l yL_judge wsL_judge rm_L_judge g X0 o f S [.ref h, .int name, .int port, .int key, .int ct, .ref o] (pw2 S (inL ct nc) (okNP name port && okK key) (fun w S' => ∃ v : Int32, w = v.toInt64 ∧ v = (jo (sc 1) M n ns name port key ct.toNatClampNeg) ∧ S' = S ∧ (inL ct nc = true ∧ (okNP name port && okK key) = true))) := by
  refine h_startO (maxL := 7) (ret := (some .int)) (by decide) rfl (Nat.le_of_ble_eq_true rfl) ?_
  intro p e s m args below meth c F hr ht
  refine q_aload F dL_judge_0 rfl ?_
  refine q_iconst F dL_judge_2 hc_0 ?_
  refine q_aload_n F 0 dL_judge_3 rfl rfl ?_
  refine q_iload_n F 1 dL_judge_4 rfl rfl ?_
  refine q_iload_n F 2 dL_judge_5 rfl rfl ?_
  refine q_iload_n F 3 dL_judge_6 rfl rfl ?_
  refine q_iload F dL_judge_7 rfl ?_
  refine q_callVX_i F (c_X4_judge hst hG hC hi) gL_judge_X4_judge rfl hd_X4_judge ⟨Nat.le_of_ble_eq_true rfl, Nat.le_of_ble_eq_true rfl⟩ hG.1 rfl rfl rfl (Nat.le_of_ble_eq_true rfl) dL_judge_9 ⟨Nat.le_of_ble_eq_true rfl, Nat.le_of_ble_eq_true rfl⟩ (fun E hE => ?_) (fun k5 => ?_)
  · rcases hE with ⟨hA1, rfl⟩ | ⟨hA1, hA2, rfl⟩
    · skip
      refine q_catch (name := "") F [] (⟨0, 14, 17, 21⟩ : ExceptionTableEntry) [(⟨0, 14, 21, 13⟩ : ExceptionTableEntry)] ht (fun z hz => nomatch hz) (by decide) (by decide) (List.mem_of_getElem? (i := 125) (by decide +kernel)) (by decide) (fun q => ?_)
      refine q_astore F dL_judge_17 (by decide) rfl ?_
      refine q_iconst F dL_judge_19 hc_1 ?_
      exact q_retiO F hr dL_judge_20 (Nat.le_of_ble_eq_true rfl) (Nat.le_of_ble_eq_true rfl) (Or.inl ⟨hA1, rfl, rfl⟩)
    · skip
      refine q_catch (name := "") F [(⟨0, 14, 17, 21⟩ : ExceptionTableEntry)] (⟨0, 14, 21, 13⟩ : ExceptionTableEntry) [] ht (fun z hz => by rcases List.mem_cons.mp hz with rfl | hz; exact ⟨by decide, xIO, (List.mem_of_getElem? (i := 125) (by decide +kernel)), by decide, by decide⟩; exact nomatch hz) (by decide) (by decide) (List.mem_of_getElem? (i := 62) (by decide +kernel)) (by decide) (fun q => ?_)
      refine q_astore F dL_judge_21 (by decide) rfl ?_
      refine q_iconst F dL_judge_23 hc_2 ?_
      exact q_retiO F hr dL_judge_24 (Nat.le_of_ble_eq_true rfl) (Nat.le_of_ble_eq_true rfl) (Or.inr (Or.inl ⟨hA1, hA2, rfl, rfl⟩))
  refine q_i2l F dL_judge_12 ?_
  refine q_last F dL_judge_13 (fun f1 hf1 => ?_)
  refine q_goto F 25 dL_judge_14 rfl ?_
  refine q_iconst F dL_judge_25 hc_0 ?_
  exact q_retiO F hr dL_judge_26 (Nat.le_of_ble_eq_true rfl) (Nat.le_of_ble_eq_true rfl) (Or.inr (Or.inr (⟨rfl, ⟨_, hf1, rfl, rfl, k5⟩⟩)))

set_option maxHeartbeats 4000000 in
set_option maxRecDepth 100000 in
theorem c_L_judge_n {l : Launch} {g : hG} {X0 : va_W} {o : Nat} {f : Nat → Int64} {S : hS} (hst : l.stackTraces = false) {h bk ca sa : Nat} {ad pa : Nat → Nat} {sc : Nat → Int32} {M : Nat → Nat → Int32} {n nc ns : Nat} (hG : cG S h bk ca sa ad pa) (hC : cC S h ca sa ad pa sc M n nc ns) {name port key : Int32} : hMetO l yL_judge wsL_judge rm_L_judge g X0 o f S [.ref h, .int name, .int port, .int key, .int (-1), .ref o] (pw1 S 2 (okNP name port && okK key) (fun w S' => ∃ v : Int32, w = v.toInt64 ∧ v = (jb (sc 1) M name port key (-1) n) ∧ S' = S ∧ (okNP name port && okK key) = true)) := by
  refine h_startO (maxL := 7) (ret := (some .int)) (by decide) rfl (Nat.le_of_ble_eq_true rfl) ?_
  intro p e s m args below meth c F hr ht
  refine q_aload F dL_judge_0 rfl ?_
  refine q_iconst F dL_judge_2 hc_0 ?_
  refine q_aload_n F 0 dL_judge_3 rfl rfl ?_
  refine q_iload_n F 1 dL_judge_4 rfl rfl ?_
  refine q_iload_n F 2 dL_judge_5 rfl rfl ?_
  refine q_iload_n F 3 dL_judge_6 rfl rfl ?_
  refine q_iload F dL_judge_7 rfl ?_
  refine q_callVX_i F (c_X4_judge_n hst hG hC) gL_judge_X4_judge rfl hd_X4_judge ⟨Nat.le_of_ble_eq_true rfl, Nat.le_of_ble_eq_true rfl⟩ hG.1 rfl rfl rfl (Nat.le_of_ble_eq_true rfl) dL_judge_9 ⟨Nat.le_of_ble_eq_true rfl, Nat.le_of_ble_eq_true rfl⟩ (fun E hE => ?_) (fun k5 => ?_)
  · obtain ⟨hA1, rfl⟩ := hE
    refine q_catch (name := "") F [(⟨0, 14, 17, 21⟩ : ExceptionTableEntry)] (⟨0, 14, 21, 13⟩ : ExceptionTableEntry) [] ht (fun z hz => by rcases List.mem_cons.mp hz with rfl | hz; exact ⟨by decide, xIO, (List.mem_of_getElem? (i := 125) (by decide +kernel)), by decide, by decide⟩; exact nomatch hz) (by decide) (by decide) (List.mem_of_getElem? (i := 62) (by decide +kernel)) (by decide) (fun q => ?_)
    refine q_astore F dL_judge_21 (by decide) rfl ?_
    refine q_iconst F dL_judge_23 hc_2 ?_
    exact q_retiO F hr dL_judge_24 (Nat.le_of_ble_eq_true rfl) (Nat.le_of_ble_eq_true rfl) (Or.inl ⟨hA1, rfl, rfl⟩)
  refine q_i2l F dL_judge_12 ?_
  refine q_last F dL_judge_13 (fun f1 hf1 => ?_)
  refine q_goto F 25 dL_judge_14 rfl ?_
  refine q_iconst F dL_judge_25 hc_0 ?_
  exact q_retiO F hr dL_judge_26 (Nat.le_of_ble_eq_true rfl) (Nat.le_of_ble_eq_true rfl) (Or.inr (⟨rfl, ⟨_, hf1, rfl, rfl, k5⟩⟩))

set_option maxHeartbeats 4000000 in
set_option maxRecDepth 100000 in
theorem c_L_judgeByReading {l : Launch} {g : hG} {X0 : va_W} {o : Nat} {f : Nat → Int64} {S : hS} (hst : l.stackTraces = false) {h bk ca sa : Nat} {ad pa : Nat → Nat} {sc : Nat → Int32} {M : Nat → Nat → Int32} {n nc ns : Nat} (hG : cG S h bk ca sa ad pa) (hC : cC S h ca sa ad pa sc M n nc ns) {name port key : Int32} : hMetO l yL_judgeByReading wsL_judgeByReading rm_L_judgeByReading g X0 o f S [.ref h, .int name, .int port, .int key, .ref o] (pw1 S 1 (okNP name port && okK key) (fun w S' => ∃ v : Int32, w = v.toInt64 ∧ v = (jb (sc 1) M name port key (-1) n) ∧ S' = S ∧ (okNP name port && okK key) = true)) := by
  refine h_startO (maxL := 6) (ret := (some .int)) (by decide) rfl (Nat.le_of_ble_eq_true rfl) ?_
  intro p e s m args below meth c F hr ht
  refine q_aload F dL_judgeByReading_0 rfl ?_
  refine q_iconst F dL_judgeByReading_2 hc_0 ?_
  refine q_aload_n F 0 dL_judgeByReading_3 rfl rfl ?_
  refine q_iload_n F 1 dL_judgeByReading_4 rfl rfl ?_
  refine q_iload_n F 2 dL_judgeByReading_5 rfl rfl ?_
  refine q_iload_n F 3 dL_judgeByReading_6 rfl rfl ?_
  refine q_callVX_i F (c_X4_judgeByReading hst hG hC) gL_judgeByReading_X4_judgeByReading rfl hd_X4_judgeByReading ⟨Nat.le_of_ble_eq_true rfl, Nat.le_of_ble_eq_true rfl⟩ hG.1 rfl rfl rfl (Nat.le_of_ble_eq_true rfl) dL_judgeByReading_7 ⟨Nat.le_of_ble_eq_true rfl, Nat.le_of_ble_eq_true rfl⟩ (fun E hE => ?_) (fun k5 => ?_)
  · obtain ⟨hA1, rfl⟩ := hE
    refine q_catch (name := "") F [] (⟨0, 12, 15, 13⟩ : ExceptionTableEntry) [] ht (fun z hz => nomatch hz) (by decide) (by decide) (List.mem_of_getElem? (i := 62) (by decide +kernel)) (by decide) (fun q => ?_)
    refine q_astore F dL_judgeByReading_15 (by decide) rfl ?_
    refine q_iconst F dL_judgeByReading_17 hc_1 ?_
    exact q_retiO F hr dL_judgeByReading_18 (Nat.le_of_ble_eq_true rfl) (Nat.le_of_ble_eq_true rfl) (Or.inl ⟨hA1, rfl, rfl⟩)
  refine q_i2l F dL_judgeByReading_10 ?_
  refine q_last F dL_judgeByReading_11 (fun f1 hf1 => ?_)
  refine q_goto F 19 dL_judgeByReading_12 rfl ?_
  refine q_iconst F dL_judgeByReading_19 hc_0 ?_
  exact q_retiO F hr dL_judgeByReading_20 (Nat.le_of_ble_eq_true rfl) (Nat.le_of_ble_eq_true rfl) (Or.inr (⟨rfl, ⟨_, hf1, rfl, rfl, k5⟩⟩))

set_option maxHeartbeats 4000000 in
set_option maxRecDepth 100000 in
theorem c_L_keyOf {l : Launch} {g : hG} {X0 : va_W} {o : Nat} {f : Nat → Int64} {S : hS} (hst : l.stackTraces = false) {h bk ca sa : Nat} {ad pa : Nat → Nat} {sc : Nat → Int32} {M : Nat → Nat → Int32} {n nc ns : Nat} (hG : cG S h bk ca sa ad pa) (hC : cC S h ca sa ad pa sc M n nc ns) {i : Int32} : hMetO l yL_keyOf wsL_keyOf rm_L_keyOf g X0 o f S [.ref h, .int i, .ref o] (pw1 S 1 (inL i n) (fun w S' => ∃ v : Int32, w = v.toInt64 ∧ v = 1000 * M 6 i.toNatClampNeg + M 5 i.toNatClampNeg ∧ S' = S ∧ inL i n = true)) := by
  refine h_startO (maxL := 4) (ret := (some .int)) (by decide) rfl (Nat.le_of_ble_eq_true rfl) ?_
  intro p e s m args below meth c F hr ht
  refine q_aload_n F 2 dL_keyOf_0 rfl rfl ?_
  refine q_iconst F dL_keyOf_1 hc_0 ?_
  refine q_aload_n F 0 dL_keyOf_2 rfl rfl ?_
  refine q_iload_n F 1 dL_keyOf_3 rfl rfl ?_
  refine q_callVX_i F (c_X4_keyOf hst hG hC) gL_keyOf_X4_keyOf rfl hd_X4_keyOf ⟨Nat.le_of_ble_eq_true rfl, Nat.le_of_ble_eq_true rfl⟩ hG.1 rfl rfl rfl (Nat.le_of_ble_eq_true rfl) dL_keyOf_4 ⟨Nat.le_of_ble_eq_true rfl, Nat.le_of_ble_eq_true rfl⟩ (fun E hE => ?_) (fun k5 => ?_)
  · obtain ⟨hA1, rfl⟩ := hE
    refine q_catch (name := "") F [] (⟨0, 9, 12, 21⟩ : ExceptionTableEntry) [] ht (fun z hz => nomatch hz) (by decide) (by decide) (List.mem_of_getElem? (i := 125) (by decide +kernel)) (by decide) (fun q => ?_)
    refine q_astore_n F 3 dL_keyOf_12 rfl (by decide) rfl ?_
    refine q_iconst F dL_keyOf_13 hc_1 ?_
    exact q_retiO F hr dL_keyOf_14 (Nat.le_of_ble_eq_true rfl) (Nat.le_of_ble_eq_true rfl) (Or.inl ⟨hA1, rfl, rfl⟩)
  refine q_i2l F dL_keyOf_7 ?_
  refine q_last F dL_keyOf_8 (fun f1 hf1 => ?_)
  refine q_goto F 15 dL_keyOf_9 rfl ?_
  refine q_iconst F dL_keyOf_15 hc_0 ?_
  exact q_retiO F hr dL_keyOf_16 (Nat.le_of_ble_eq_true rfl) (Nat.le_of_ble_eq_true rfl) (Or.inr (⟨rfl, ⟨_, hf1, rfl, rfl, k5⟩⟩))

set_option maxHeartbeats 4000000 in
set_option maxRecDepth 100000 in
theorem c_L_seen {l : Launch} {g : hG} {X0 : va_W} {o : Nat} {f : Nat → Int64} {S : hS} (hst : l.stackTraces = false) {h bk ca sa : Nat} {ad pa : Nat → Nat} {sc : Nat → Int32} {M : Nat → Nat → Int32} {n nc ns : Nat} (hG : cG S h bk ca sa ad pa) (hC : cC S h ca sa ad pa sc M n nc ns) {i : Int32} : hMetO l yL_seen wsL_seen rm_L_seen g X0 o f S [.ref h, .int i, .ref o] (pw1 S 1 (inL i n) (fun w S' => ∃ v : Int32, w = v.toInt64 ∧ v = M 7 i.toNatClampNeg ∧ S' = S ∧ inL i n = true)) := by
  refine h_startO (maxL := 4) (ret := (some .int)) (by decide) rfl (Nat.le_of_ble_eq_true rfl) ?_
  intro p e s m args below meth c F hr ht
  refine q_aload_n F 2 dL_seen_0 rfl rfl ?_
  refine q_iconst F dL_seen_1 hc_0 ?_
  refine q_aload_n F 0 dL_seen_2 rfl rfl ?_
  refine q_iload_n F 1 dL_seen_3 rfl rfl ?_
  refine q_callVX_i F (c_X4_seen hst hG hC) gL_seen_X4_seen rfl hd_X4_seen ⟨Nat.le_of_ble_eq_true rfl, Nat.le_of_ble_eq_true rfl⟩ hG.1 rfl rfl rfl (Nat.le_of_ble_eq_true rfl) dL_seen_4 ⟨Nat.le_of_ble_eq_true rfl, Nat.le_of_ble_eq_true rfl⟩ (fun E hE => ?_) (fun k5 => ?_)
  · obtain ⟨hA1, rfl⟩ := hE
    refine q_catch (name := "") F [] (⟨0, 9, 12, 21⟩ : ExceptionTableEntry) [] ht (fun z hz => nomatch hz) (by decide) (by decide) (List.mem_of_getElem? (i := 125) (by decide +kernel)) (by decide) (fun q => ?_)
    refine q_astore_n F 3 dL_seen_12 rfl (by decide) rfl ?_
    refine q_iconst F dL_seen_13 hc_1 ?_
    exact q_retiO F hr dL_seen_14 (Nat.le_of_ble_eq_true rfl) (Nat.le_of_ble_eq_true rfl) (Or.inl ⟨hA1, rfl, rfl⟩)
  refine q_i2l F dL_seen_7 ?_
  refine q_last F dL_seen_8 (fun f1 hf1 => ?_)
  refine q_goto F 15 dL_seen_9 rfl ?_
  refine q_iconst F dL_seen_15 hc_0 ?_
  exact q_retiO F hr dL_seen_16 (Nat.le_of_ble_eq_true rfl) (Nat.le_of_ble_eq_true rfl) (Or.inr (⟨rfl, ⟨_, hf1, rfl, rfl, k5⟩⟩))

set_option maxHeartbeats 4000000 in
set_option maxRecDepth 100000 in
theorem c_L_end {l : Launch} {g : hG} {X0 : va_W} {o : Nat} {f : Nat → Int64} {S : hS} (hst : l.stackTraces = false) {h bk ca sa : Nat} {ad pa : Nat → Nat} {sc : Nat → Int32} {M : Nat → Nat → Int32} {n nc ns : Nat} (hG : cG S h bk ca sa ad pa) (hC : cC S h ca sa ad pa sc M n nc ns) {i : Int32} : hMetO l yL_end wsL_end rm_L_end g X0 o f S [.ref h, .int i, .ref o] (pw1 S 1 (inL i n) (fun w S' => ∃ v : Int32, w = v.toInt64 ∧ v = M 8 i.toNatClampNeg ∧ S' = S ∧ inL i n = true)) := by
  refine h_startO (maxL := 4) (ret := (some .int)) (by decide) rfl (Nat.le_of_ble_eq_true rfl) ?_
  intro p e s m args below meth c F hr ht
  refine q_aload_n F 2 dL_end_0 rfl rfl ?_
  refine q_iconst F dL_end_1 hc_0 ?_
  refine q_aload_n F 0 dL_end_2 rfl rfl ?_
  refine q_iload_n F 1 dL_end_3 rfl rfl ?_
  refine q_callVX_i F (c_X4_end hst hG hC) gL_end_X4_end rfl hd_X4_end ⟨Nat.le_of_ble_eq_true rfl, Nat.le_of_ble_eq_true rfl⟩ hG.1 rfl rfl rfl (Nat.le_of_ble_eq_true rfl) dL_end_4 ⟨Nat.le_of_ble_eq_true rfl, Nat.le_of_ble_eq_true rfl⟩ (fun E hE => ?_) (fun k5 => ?_)
  · obtain ⟨hA1, rfl⟩ := hE
    refine q_catch (name := "") F [] (⟨0, 9, 12, 21⟩ : ExceptionTableEntry) [] ht (fun z hz => nomatch hz) (by decide) (by decide) (List.mem_of_getElem? (i := 125) (by decide +kernel)) (by decide) (fun q => ?_)
    refine q_astore_n F 3 dL_end_12 rfl (by decide) rfl ?_
    refine q_iconst F dL_end_13 hc_1 ?_
    exact q_retiO F hr dL_end_14 (Nat.le_of_ble_eq_true rfl) (Nat.le_of_ble_eq_true rfl) (Or.inl ⟨hA1, rfl, rfl⟩)
  refine q_i2l F dL_end_7 ?_
  refine q_last F dL_end_8 (fun f1 hf1 => ?_)
  refine q_goto F 15 dL_end_9 rfl ?_
  refine q_iconst F dL_end_15 hc_0 ?_
  exact q_retiO F hr dL_end_16 (Nat.le_of_ble_eq_true rfl) (Nat.le_of_ble_eq_true rfl) (Or.inr (⟨rfl, ⟨_, hf1, rfl, rfl, k5⟩⟩))

set_option maxHeartbeats 4000000 in
set_option maxRecDepth 100000 in
theorem c_L_find {l : Launch} {g : hG} {X0 : va_W} {o : Nat} {f : Nat → Int64} {S : hS} (hst : l.stackTraces = false) {h bk ca sa : Nat} {ad pa : Nat → Nat} {sc : Nat → Int32} {M : Nat → Nat → Int32} {n nc ns : Nat} (hG : cG S h bk ca sa ad pa) (hC : cC S h ca sa ad pa sc M n nc ns) {name port : Int32} : hMetO l yL_find wsL_find rm_L_find g X0 o f S [.ref h, .int name, .int port, .ref o] (pw1 S 1 (okNP name port) (fun w S' => ∃ v : Int32, w = v.toInt64 ∧ v = fd (fun i => mt M i name port) n n ∧ S' = S ∧ okNP name port = true)) := by
  refine h_startO (maxL := 5) (ret := (some .int)) (by decide) rfl (Nat.le_of_ble_eq_true rfl) ?_
  intro p e s m args below meth c F hr ht
  refine q_aload_n F 3 dL_find_0 rfl rfl ?_
  refine q_iconst F dL_find_1 hc_0 ?_
  refine q_aload_n F 0 dL_find_2 rfl rfl ?_
  refine q_iload_n F 1 dL_find_3 rfl rfl ?_
  refine q_iload_n F 2 dL_find_4 rfl rfl ?_
  refine q_callVX_i F (c_X4_find hst hG hC) gL_find_X4_find rfl hd_X4_find ⟨Nat.le_of_ble_eq_true rfl, Nat.le_of_ble_eq_true rfl⟩ hG.1 rfl rfl rfl (Nat.le_of_ble_eq_true rfl) dL_find_5 ⟨Nat.le_of_ble_eq_true rfl, Nat.le_of_ble_eq_true rfl⟩ (fun E hE => ?_) (fun k5 => ?_)
  · obtain ⟨hA1, rfl⟩ := hE
    refine q_catch (name := "") F [] (⟨0, 10, 13, 13⟩ : ExceptionTableEntry) [] ht (fun z hz => nomatch hz) (by decide) (by decide) (List.mem_of_getElem? (i := 62) (by decide +kernel)) (by decide) (fun q => ?_)
    refine q_astore F dL_find_13 (by decide) rfl ?_
    refine q_iconst F dL_find_15 hc_1 ?_
    exact q_retiO F hr dL_find_16 (Nat.le_of_ble_eq_true rfl) (Nat.le_of_ble_eq_true rfl) (Or.inl ⟨hA1, rfl, rfl⟩)
  refine q_i2l F dL_find_8 ?_
  refine q_last F dL_find_9 (fun f1 hf1 => ?_)
  refine q_goto F 17 dL_find_10 rfl ?_
  refine q_iconst F dL_find_17 hc_0 ?_
  exact q_retiO F hr dL_find_18 (Nat.le_of_ble_eq_true rfl) (Nat.le_of_ble_eq_true rfl) (Or.inr (⟨rfl, ⟨_, hf1, rfl, rfl, k5⟩⟩))

set_option maxHeartbeats 4000000 in
set_option maxRecDepth 100000 in
theorem c_L_matches {l : Launch} {g : hG} {X0 : va_W} {o : Nat} {f : Nat → Int64} {S : hS} (hst : l.stackTraces = false) {h bk ca sa : Nat} {ad pa : Nat → Nat} {sc : Nat → Int32} {M : Nat → Nat → Int32} {n nc ns : Nat} (hG : cG S h bk ca sa ad pa) (hC : cC S h ca sa ad pa sc M n nc ns) {i name port : Int32} : hMetO l yL_matches wsL_matches rm_L_matches g X0 o f S [.ref h, .int i, .int name, .int port, .ref o] (pw2 S (inL i n) (okNP name port) (fun w S' => w = (if mt M i.toNatClampNeg name port = true then 1 else 0) ∧ S' = S ∧ inL i n = true ∧ okNP name port = true)) := by
  refine h_startO (maxL := 6) (ret := (some .int)) (by decide) rfl (Nat.le_of_ble_eq_true rfl) ?_
  intro p e s m args below meth c F hr ht
  refine q_aload F dL_matches_0 rfl ?_
  refine q_iconst F dL_matches_2 hc_0 ?_
  refine q_aload_n F 0 dL_matches_3 rfl rfl ?_
  refine q_iload_n F 1 dL_matches_4 rfl rfl ?_
  refine q_iload_n F 2 dL_matches_5 rfl rfl ?_
  refine q_iload_n F 3 dL_matches_6 rfl rfl ?_
  refine q_callVX_i F (c_X4_matches hst hG hC) gL_matches_X4_matches rfl hd_X4_matches ⟨Nat.le_of_ble_eq_true rfl, Nat.le_of_ble_eq_true rfl⟩ hG.1 rfl rfl rfl (Nat.le_of_ble_eq_true rfl) dL_matches_7 ⟨Nat.le_of_ble_eq_true rfl, Nat.le_of_ble_eq_true rfl⟩ (fun E hE => ?_) (fun k5 => ?_)
  · rcases hE with ⟨hA1, rfl⟩ | ⟨hA1, hA2, rfl⟩
    · skip
      refine q_catch (name := "") F [] (⟨0, 19, 22, 21⟩ : ExceptionTableEntry) [(⟨0, 19, 26, 13⟩ : ExceptionTableEntry)] ht (fun z hz => nomatch hz) (by decide) (by decide) (List.mem_of_getElem? (i := 125) (by decide +kernel)) (by decide) (fun q => ?_)
      refine q_astore F dL_matches_22 (by decide) rfl ?_
      refine q_iconst F dL_matches_24 hc_1 ?_
      exact q_retiO F hr dL_matches_25 (Nat.le_of_ble_eq_true rfl) (Nat.le_of_ble_eq_true rfl) (Or.inl ⟨hA1, rfl, rfl⟩)
    · skip
      refine q_catch (name := "") F [(⟨0, 19, 22, 21⟩ : ExceptionTableEntry)] (⟨0, 19, 26, 13⟩ : ExceptionTableEntry) [] ht (fun z hz => by rcases List.mem_cons.mp hz with rfl | hz; exact ⟨by decide, xIO, (List.mem_of_getElem? (i := 125) (by decide +kernel)), by decide, by decide⟩; exact nomatch hz) (by decide) (by decide) (List.mem_of_getElem? (i := 62) (by decide +kernel)) (by decide) (fun q => ?_)
      refine q_astore F dL_matches_26 (by decide) rfl ?_
      refine q_iconst F dL_matches_28 hc_2 ?_
      exact q_retiO F hr dL_matches_29 (Nat.le_of_ble_eq_true rfl) (Nat.le_of_ble_eq_true rfl) (Or.inr (Or.inl ⟨hA1, hA2, rfl, rfl⟩))
  refine q_if_eq F 17 dL_matches_10 rfl (fun c10 => ?_) (fun c10 => ?_)
  · skip
    refine q_lconst (v := 0) F dL_matches_17 (by decide) ?_
    refine q_last F dL_matches_18 (fun f1 hf1 => ?_)
    refine q_goto F 30 dL_matches_19 rfl ?_
    refine q_iconst F dL_matches_30 hc_0 ?_
    exact q_retiO F hr dL_matches_31 (Nat.le_of_ble_eq_true rfl) (Nat.le_of_ble_eq_true rfl) (Or.inr (Or.inr (⟨rfl, by rw [hf1]; first | (rw [b2_0.mp c10]; rfl) | (rw [b2_n0 c10]; rfl), rfl, k5⟩)))
  refine q_lconst (v := 1) F dL_matches_13 (by decide) ?_
  refine q_goto F 18 dL_matches_14 rfl ?_
  refine q_last F dL_matches_18 (fun f1 hf1 => ?_)
  refine q_goto F 30 dL_matches_19 rfl ?_
  refine q_iconst F dL_matches_30 hc_0 ?_
  exact q_retiO F hr dL_matches_31 (Nat.le_of_ble_eq_true rfl) (Nat.le_of_ble_eq_true rfl) (Or.inr (Or.inr (⟨rfl, by rw [hf1]; first | (rw [b2_0.mp c10]; rfl) | (rw [b2_n0 c10]; rfl), rfl, k5⟩)))

set_option maxHeartbeats 4000000 in
set_option maxRecDepth 100000 in
theorem c_L_linesOf {l : Launch} {g : hG} {X0 : va_W} {o : Nat} {f : Nat → Int64} {S : hS} (hst : l.stackTraces = false) {h bk ca sa : Nat} {ad pa : Nat → Nat} {sc : Nat → Int32} {M : Nat → Nat → Int32} {n nc ns : Nat} (hG : cG S h bk ca sa ad pa) (hC : cC S h ca sa ad pa sc M n nc ns) {key : Int32} : hMetO l yL_linesOf wsL_linesOf rm_L_linesOf g X0 o f S [.ref h, .int key, .ref o] (pw1 S 1 (okK key) (fun w S' => w = lo (fun i => decide (M 5 i = key)) n ∧ S' = S ∧ okK key = true)) := by
  refine h_startO (maxL := 4) (ret := (some .int)) (by decide) rfl (Nat.le_of_ble_eq_true rfl) ?_
  intro p e s m args below meth c F hr ht
  refine q_aload_n F 2 dL_linesOf_0 rfl rfl ?_
  refine q_iconst F dL_linesOf_1 hc_0 ?_
  refine q_aload_n F 0 dL_linesOf_2 rfl rfl ?_
  refine q_iload_n F 1 dL_linesOf_3 rfl rfl ?_
  refine q_callVX_l F (c_X4_linesOf hst hG hC) gL_linesOf_X4_linesOf rfl hd_X4_linesOf ⟨Nat.le_of_ble_eq_true rfl, Nat.le_of_ble_eq_true rfl⟩ hG.1 rfl rfl rfl (Nat.le_of_ble_eq_true rfl) dL_linesOf_4 ⟨Nat.le_of_ble_eq_true rfl, Nat.le_of_ble_eq_true rfl⟩ (fun E hE => ?_) (fun k5 => ?_)
  · obtain ⟨hA1, rfl⟩ := hE
    refine q_catch (name := "") F [] (⟨0, 8, 11, 13⟩ : ExceptionTableEntry) [] ht (fun z hz => nomatch hz) (by decide) (by decide) (List.mem_of_getElem? (i := 62) (by decide +kernel)) (by decide) (fun q => ?_)
    refine q_astore_n F 3 dL_linesOf_11 rfl (by decide) rfl ?_
    refine q_iconst F dL_linesOf_12 hc_1 ?_
    exact q_retiO F hr dL_linesOf_13 (Nat.le_of_ble_eq_true rfl) (Nat.le_of_ble_eq_true rfl) (Or.inl ⟨hA1, rfl, rfl⟩)
  refine q_last F dL_linesOf_7 (fun f1 hf1 => ?_)
  refine q_goto F 14 dL_linesOf_8 rfl ?_
  refine q_iconst F dL_linesOf_14 hc_0 ?_
  exact q_retiO F hr dL_linesOf_15 (Nat.le_of_ble_eq_true rfl) (Nat.le_of_ble_eq_true rfl) (Or.inr (⟨rfl, hf1, rfl, k5⟩))

