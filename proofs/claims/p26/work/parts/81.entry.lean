/-! WHAT HOLDS AT THE LAW'S ENTRY -/
theorem lw_arrP {ty : FieldType} {args : Array Value} {s : State} (h : (Cond.arrayClass ty).before args s = true) : ∃ cA : ClassId, ArrOfT s cA ty ∧ s.vm.findClass ("[" ++ ty.toString) = some cA := by
  obtain ⟨cA, kA, comp, h1, h2, h3⟩ := Cond.arrayClass_spec (show (Cond.arrayClass ty).holds args s none s [] = true from h)
  exact ⟨cA, fun n z => ⟨fun k h => (by cases h), kA, h2, comp, h3⟩, h1⟩
theorem lw_arrR {C : String} {args : Array Value} {s : State} (h : (Cond.arrayOver (.object C)).before args s = true) : ∃ cA : ClassId, ArrOfT s cA (.object C) ∧ va_RA s cA (.object C) := by
  obtain ⟨comp, cA, kA, h1, h2, h3, h4, h5⟩ := Cond.arrayOver_spec (show (Cond.arrayOver (.object C)).holds args s none s [] = true from h)
  exact ⟨cA, fun n z => ⟨fun k h => (by cases h), kA, h3, comp, h4⟩, kA, comp, h3, h4, h1, h5⟩
theorem lw_str {own tx : String} {k : Nat} {args : Array Value} {s : State} (h1 : (Cond.stringRef own k tx).before args s = true) (h2 : (Cond.exactly (.string own k) "java/lang/String").before args s = true) : ∃ a, vk_R own k tx a s := by
  obtain ⟨a, c, cell, kk, h, -⟩ := Cond.exactly_spec (show (Cond.exactly (.string own k) "java/lang/String").holds args s none s [] = true from h2)
  exact ⟨a, vk_R.of h1 h⟩
theorem lw_nost {l : Launch} (h : l.flags = flags0) : l.stackTraces = false := by
  unfold Launch.stackTraces
  rw [h]
  decide +kernel
set_option maxHeartbeats 4000000 in
set_option maxRecDepth 100000 in
theorem lw_K {s : State} {args : Array Value} (hts : ∀ w ∈ lw_tbl, w.before args s = true) : ∃ (D : va_G) (cy : Nat → ClassId), va_K D vwCl (hTY cy) s := by
  obtain ⟨c0, i0, hK0⟩ := u_known (C := RX0) (T := TX0) (N := 7) (n := 7) hts inX0 (hts (.instantiable RX0 7) (List.mem_of_getElem? (i := 400) (by decide +kernel)))
  obtain ⟨c1, i1, hK1⟩ := u_known (C := RX1) (T := TX1) (N := 10) (n := 10) hts inX1 (hts (.instantiable RX1 10) (List.mem_of_getElem? (i := 45) (by decide +kernel)))
  obtain ⟨c2, i2, hK2⟩ := u_known (C := RX2) (T := TX2) (N := 4) (n := 4) hts inX2 (hts (.instantiable RX2 4) (List.mem_of_getElem? (i := 325) (by decide +kernel)))
  obtain ⟨c3, i3, hK3⟩ := u_known (C := RX3) (T := TX3) (N := 3) (n := 3) hts inX3 (hts (.instantiable RX3 3) (List.mem_of_getElem? (i := 368) (by decide +kernel)))
  obtain ⟨c4, i4, hK4⟩ := u_known (C := RX4) (T := TX4) (N := 12) (n := 12) hts inX4 (hts (.instantiable RX4 12) (List.mem_of_getElem? (i := 32) (by decide +kernel)))
  obtain ⟨a0, hA0, hB0⟩ := lw_arrP (hts (.arrayClass .int) (List.mem_of_getElem? (i := 564) (by decide +kernel)))
  obtain ⟨a1, hA1, hB1⟩ := lw_arrP (hts (.arrayClass .int) (List.mem_of_getElem? (i := 564) (by decide +kernel)))
  obtain ⟨a2, hA2, hB2⟩ := lw_arrR (hts (.arrayOver (.object RX0)) (List.mem_of_getElem? (i := 42) (by decide +kernel)))
  obtain ⟨a3, hA3, hB3⟩ := lw_arrR (hts (.arrayOver (.object RX1)) (List.mem_of_getElem? (i := 40) (by decide +kernel)))
  obtain ⟨a4, hA4, hB4⟩ := lw_arrR (hts (.arrayOver (.object RX2)) (List.mem_of_getElem? (i := 51) (by decide +kernel)))
  obtain ⟨a5, hA5, hB5⟩ := lw_arrR (hts (.arrayOver (.object RX3)) (List.mem_of_getElem? (i := 44) (by decide +kernel)))
  refine ⟨(fun k => if k = 0 then c0 else if k = 1 then c1 else if k = 2 then c2 else if k = 3 then c3 else c4, fun k => if k = 0 then i0 else if k = 1 then i1 else if k = 2 then i2 else if k = 3 then i3 else i4), fun k => if k = 0 then a0 else if k = 1 then a1 else if k = 2 then a2 else if k = 3 then a3 else if k = 4 then a4 else a5, ?_, ?_⟩
  · intro k q hq
    match k, hq with
    | 0, hq => cases (Option.some.inj (show some (RX0, TX0, 7) = some q from hq)); exact hK0
    | 1, hq => cases (Option.some.inj (show some (RX1, TX1, 10) = some q from hq)); exact hK1
    | 2, hq => cases (Option.some.inj (show some (RX2, TX2, 4) = some q from hq)); exact hK2
    | 3, hq => cases (Option.some.inj (show some (RX3, TX3, 3) = some q from hq)); exact hK3
    | 4, hq => cases (Option.some.inj (show some (RX4, TX4, 12) = some q from hq)); exact hK4
    | k + 5, hq => simp [vwCl] at hq
  · intro k q hq
    match k, hq with
    | 0, hq => cases (Option.some.inj (show some (_, _) = some q from hq)); exact ⟨hA0, hB0⟩
    | 1, hq => cases (Option.some.inj (show some (_, _) = some q from hq)); exact ⟨hA1, hB1⟩
    | 2, hq => cases (Option.some.inj (show some (_, _) = some q from hq)); exact ⟨hA2, hB2⟩
    | 3, hq => cases (Option.some.inj (show some (_, _) = some q from hq)); exact ⟨hA3, hB3⟩
    | 4, hq => cases (Option.some.inj (show some (_, _) = some q from hq)); exact ⟨hA4, hB4⟩
    | 5, hq => cases (Option.some.inj (show some (_, _) = some q from hq)); exact ⟨hA5, hB5⟩
    | k + 6, hq => simp [hTY] at hq
set_option maxHeartbeats 4000000 in
set_option maxRecDepth 100000 in
theorem lw_nf {s : State} {args : Array Value} (hts : ∀ w ∈ lw_tbl, w.before args s = true) : ∀ q ∈ hNF, va_Nw (.fieldLinkNest q.1 q.2.1 q.2.2.1 q.2.2.2.1 q.2.2.2.2 "HostKeyring") s := by
  exact List.forall_mem_cons.mpr ⟨va_Nw.of rfl (hts (.fieldLinkNest "HostKeyring" 155 "HostKeyring$Line" "mark" "I" "HostKeyring") (List.mem_of_getElem? (i := 53) (by decide +kernel))), List.forall_mem_cons.mpr ⟨va_Nw.of rfl (hts (.fieldLinkNest "HostKeyring" 65 "HostKeyring$Line" "key" "I" "HostKeyring") (List.mem_of_getElem? (i := 55) (by decide +kernel))), List.forall_mem_cons.mpr ⟨va_Nw.of rfl (hts (.fieldLinkNest "HostKeyring" 158 "HostKeyring$Line" "seen" "I" "HostKeyring") (List.mem_of_getElem? (i := 57) (by decide +kernel))), List.forall_mem_cons.mpr ⟨va_Nw.of rfl (hts (.fieldLinkNest "HostKeyring" 161 "HostKeyring$Line" "end" "I" "HostKeyring") (List.mem_of_getElem? (i := 59) (by decide +kernel))), List.forall_mem_cons.mpr ⟨va_Nw.of rfl (hts (.fieldLinkNest "HostKeyring$Line" 64 "HostKeyring$Pattern" "isDenied" "Z" "HostKeyring") (List.mem_of_getElem? (i := 334) (by decide +kernel))), List.forall_mem_cons.mpr ⟨va_Nw.of rfl (hts (.fieldLinkNest "HostKeyring" 219 "HostKeyring$Certificate" "authority" "I" "HostKeyring") (List.mem_of_getElem? (i := 406) (by decide +kernel))), List.forall_mem_cons.mpr ⟨va_Nw.of rfl (hts (.fieldLinkNest "HostKeyring" 200 "HostKeyring$Certificate" "key" "I" "HostKeyring") (List.mem_of_getElem? (i := 408) (by decide +kernel))), List.forall_mem_cons.mpr ⟨va_Nw.of rfl (hts (.fieldLinkNest "HostKeyring" 225 "HostKeyring$Certificate" "name" "I" "HostKeyring") (List.mem_of_getElem? (i := 410) (by decide +kernel))), List.forall_mem_cons.mpr ⟨va_Nw.of rfl (hts (.fieldLinkNest "HostKeyring" 222 "HostKeyring$Certificate" "places" "I" "HostKeyring") (List.mem_of_getElem? (i := 412) (by decide +kernel))), List.forall_mem_cons.mpr ⟨va_Nw.of rfl (hts (.fieldLinkNest "HostKeyring" 245 "HostKeyring$Certificate" "serial" "I" "HostKeyring") (List.mem_of_getElem? (i := 414) (by decide +kernel))), List.forall_mem_cons.mpr ⟨va_Nw.of rfl (hts (.fieldLinkNest "HostKeyring" 232 "HostKeyring$Certificate" "first" "I" "HostKeyring") (List.mem_of_getElem? (i := 416) (by decide +kernel))), List.forall_mem_cons.mpr ⟨va_Nw.of rfl (hts (.fieldLinkNest "HostKeyring" 235 "HostKeyring$Certificate" "last" "I" "HostKeyring") (List.mem_of_getElem? (i := 418) (by decide +kernel))), fun _ h => absurd h List.not_mem_nil⟩⟩⟩⟩⟩⟩⟩⟩⟩⟩⟩⟩
set_option maxHeartbeats 4000000 in
set_option maxRecDepth 100000 in
theorem lw_nm {s : State} {args : Array Value} (hts : ∀ w ∈ lw_tbl, w.before args s = true) : ∀ q ∈ hNM, va_Nw (.methodLinkNest q.1 q.2.1 q.2.2 "HostKeyring") s := by
  exact List.forall_mem_cons.mpr ⟨va_Nw.of rfl (hts (.methodLinkNest "HostKeyring" 34 yX1_init "HostKeyring") (List.mem_of_getElem? (i := 46) (by decide +kernel))), List.forall_mem_cons.mpr ⟨va_Nw.of rfl (hts (.methodLinkNest "HostKeyring$Pattern" 23 yX4_isSameAt "HostKeyring") (List.mem_of_getElem? (i := 221) (by decide +kernel))), fun _ h => absurd h List.not_mem_nil⟩⟩
set_option maxHeartbeats 4000000 in
set_option maxRecDepth 100000 in
theorem lw_ao {s : State} {args : Array Value} (hts : ∀ w ∈ lw_tbl, w.before args s = true) : ∀ C ∈ [RX0, RX1, RX2, RX3], va_AO C s := by
  exact List.forall_mem_cons.mpr ⟨va_AO.of (hts (.arrayOver (.object RX0)) (List.mem_of_getElem? (i := 42) (by decide +kernel))), List.forall_mem_cons.mpr ⟨va_AO.of (hts (.arrayOver (.object RX1)) (List.mem_of_getElem? (i := 40) (by decide +kernel))), List.forall_mem_cons.mpr ⟨va_AO.of (hts (.arrayOver (.object RX2)) (List.mem_of_getElem? (i := 51) (by decide +kernel))), List.forall_mem_cons.mpr ⟨va_AO.of (hts (.arrayOver (.object RX3)) (List.mem_of_getElem? (i := 44) (by decide +kernel))), fun _ h => absurd h List.not_mem_nil⟩⟩⟩⟩
set_option maxHeartbeats 4000000 in
set_option maxRecDepth 100000 in
theorem lw_ca {s : State} {args : Array Value} (hts : ∀ w ∈ lw_tbl, w.before args s = true) : ∀ E ∈ hEx, (Cond.castable E E).before #[] s = true := by
  exact List.forall_mem_cons.mpr ⟨va_Nw.of rfl (hts (.castable "java/lang/IllegalArgumentException" "java/lang/IllegalArgumentException") (List.mem_of_getElem? (i := 144) (by decide +kernel))), List.forall_mem_cons.mpr ⟨va_Nw.of rfl (hts (.castable "java/lang/IllegalStateException" "java/lang/IllegalStateException") (List.mem_of_getElem? (i := 256) (by decide +kernel))), List.forall_mem_cons.mpr ⟨va_Nw.of rfl (hts (.castable "java/lang/IndexOutOfBoundsException" "java/lang/IndexOutOfBoundsException") (List.mem_of_getElem? (i := 284) (by decide +kernel))), fun _ h => absurd h List.not_mem_nil⟩⟩⟩
set_option maxHeartbeats 4000000 in
set_option maxRecDepth 100000 in
theorem lw_dc {s : State} {args : Array Value} (hts : ∀ w ∈ lw_tbl, w.before args s = true) : ∀ y ∈ hDc, va_Nw (.declares y) s := by
  exact List.forall_mem_cons.mpr ⟨va_Nw.of rfl (hts (.declares ⟨"java/lang/RuntimeException", "<init>", "(Ljava/lang/String;)V"⟩) (List.mem_of_getElem? (i := 146) (by decide +kernel))), List.forall_mem_cons.mpr ⟨va_Nw.of rfl (hts (.declares ⟨"java/lang/Exception", "<init>", "(Ljava/lang/String;)V"⟩) (List.mem_of_getElem? (i := 148) (by decide +kernel))), List.forall_mem_cons.mpr ⟨va_Nw.of rfl (hts (.declares ⟨"java/lang/Throwable", "<init>", "(Ljava/lang/String;)V"⟩) (List.mem_of_getElem? (i := 150) (by decide +kernel))), fun _ h => absurd h List.not_mem_nil⟩⟩⟩
set_option maxHeartbeats 4000000 in
set_option maxRecDepth 100000 in
theorem lw_st {s : State} {args : Array Value} (hts : ∀ w ∈ lw_tbl, w.before args s = true) (hgv : (Jvm.Cond.and given_1 narrow_1).before args s = true) : ∀ q ∈ hStr, ∃ a, vk_R q.1 q.2.1 q.2.2 a s := by
  exact List.forall_mem_cons.mpr ⟨lw_str (hts (.stringRef "HostKeyring" 121 "nothing waits") (List.mem_of_getElem? (i := 549) (by decide +kernel))) (flat_of_before _ hgv (.exactly (.string "HostKeyring" 121) "java/lang/String") (by decide +kernel)), List.forall_mem_cons.mpr ⟨lw_str (hts (.stringRef "HostKeyring" 131 "both keys are the same") (List.mem_of_getElem? (i := 522) (by decide +kernel))) (flat_of_before _ hgv (.exactly (.string "HostKeyring" 131) "java/lang/String") (by decide +kernel)), List.forall_mem_cons.mpr ⟨lw_str (hts (.stringRef "HostKeyring" 138 "the old key is not trusted") (List.mem_of_getElem? (i := 523) (by decide +kernel))) (flat_of_before _ hgv (.exactly (.string "HostKeyring" 138) "java/lang/String") (by decide +kernel)), List.forall_mem_cons.mpr ⟨lw_str (hts (.stringRef "HostKeyring" 140 "the new key is revoked") (List.mem_of_getElem? (i := 524) (by decide +kernel))) (flat_of_before _ hgv (.exactly (.string "HostKeyring" 140) "java/lang/String") (by decide +kernel)), List.forall_mem_cons.mpr ⟨lw_str (hts (.stringRef "HostKeyring" 149 "it would be behind the last day") (List.mem_of_getElem? (i := 541) (by decide +kernel))) (flat_of_before _ hgv (.exactly (.string "HostKeyring" 149) "java/lang/String") (by decide +kernel)), List.forall_mem_cons.mpr ⟨lw_str (hts (.stringRef "HostKeyring" 168 "an argument is out of range") (List.mem_of_getElem? (i := 183) (by decide +kernel))) (flat_of_before _ hgv (.exactly (.string "HostKeyring" 168) "java/lang/String") (by decide +kernel)), List.forall_mem_cons.mpr ⟨lw_str (hts (.stringRef "HostKeyring" 172 "there is no such line") (List.mem_of_getElem? (i := 291) (by decide +kernel))) (flat_of_before _ hgv (.exactly (.string "HostKeyring" 172) "java/lang/String") (by decide +kernel)), List.forall_mem_cons.mpr ⟨lw_str (hts (.stringRef "HostKeyring" 175 "there is no such certificate") (List.mem_of_getElem? (i := 452) (by decide +kernel))) (flat_of_before _ hgv (.exactly (.string "HostKeyring" 175) "java/lang/String") (by decide +kernel)), List.forall_mem_cons.mpr ⟨lw_str (hts (.stringRef "HostKeyring" 177 "there are as many lines as may be") (List.mem_of_getElem? (i := 263) (by decide +kernel))) (flat_of_before _ hgv (.exactly (.string "HostKeyring" 177) "java/lang/String") (by decide +kernel)), List.forall_mem_cons.mpr ⟨lw_str (hts (.stringRef "HostKeyring" 76 "there are as many certificates as may be") (List.mem_of_getElem? (i := 399) (by decide +kernel))) (flat_of_before _ hgv (.exactly (.string "HostKeyring" 76) "java/lang/String") (by decide +kernel)), List.forall_mem_cons.mpr ⟨lw_str (hts (.stringRef "HostKeyring" 87 "as many spans were revoked as may be") (List.mem_of_getElem? (i := 367) (by decide +kernel))) (flat_of_before _ hgv (.exactly (.string "HostKeyring" 87) "java/lang/String") (by decide +kernel)), List.forall_mem_cons.mpr ⟨lw_str (hts (.stringRef "HostKeyring$Line" 39 "the line takes no more patterns") (List.mem_of_getElem? (i := 323) (by decide +kernel))) (flat_of_before _ hgv (.exactly (.string "HostKeyring$Line" 39) "java/lang/String") (by decide +kernel)), fun _ h => absurd h List.not_mem_nil⟩⟩⟩⟩⟩⟩⟩⟩⟩⟩⟩⟩
set_option maxHeartbeats 4000000 in
set_option maxRecDepth 100000 in
theorem lw_hk {s : State} {args : Array Value} (hts : ∀ w ∈ lw_tbl, w.before args s = true) (hgv : (Jvm.Cond.and given_1 narrow_1).before args s = true) : ∃ g : hG, g.2.2 = s.heap.size ∧ hk g s s.heap := by
  obtain ⟨D, cy, hK⟩ := lw_K hts
  have hAn : ∀ a : Nat, a < s.heap.size → ¬ hA (D, cy, s.heap.size) a := fun a ha => Nat.not_le.mpr ha
  refine ⟨(D, cy, s.heap.size), rfl, hK, ?_, ?_, fun w hw => word_at (s := s) (U := s) (State.WarmedH.refl s) (good_of_word (List.all_eq_true.mp hk_good w hw)) (hts w (wsL_law_in w hw)), lw_nf hts, lw_nm hts, lw_ao hts, lw_st hts hgv, lw_ca hts, trivial, lw_dc hts⟩
  · exact vx_Zqof (hts (.laysStatic "java/lang/Throwable" "UNASSIGNED_STACK" "[Ljava/lang/StackTraceElement;") (List.mem_of_getElem? (i := 169) (by decide +kernel))) (hts (.initialized "java/lang/Throwable") (List.mem_of_getElem? (i := 21) (by decide +kernel))) (flat_of_before _ hgv (.isRef (.static "java/lang/Throwable" "UNASSIGNED_STACK" "[Ljava/lang/StackTraceElement;")) (by decide +kernel)) hAn
  · exact vx_Zqof (hts (.laysStatic "java/lang/Throwable" "SUPPRESSED_SENTINEL" "Ljava/util/List;") (List.mem_of_getElem? (i := 171) (by decide +kernel))) (hts (.initialized "java/lang/Throwable") (List.mem_of_getElem? (i := 21) (by decide +kernel))) (flat_of_before _ hgv (.isRef (.static "java/lang/Throwable" "SUPPRESSED_SENTINEL" "Ljava/util/List;")) (by decide +kernel)) hAn
