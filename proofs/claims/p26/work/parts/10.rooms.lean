/-! rooms of the methods; what their descriptors say; Object's constructor, Math.min -/
abbrev rm_X0_init : Room := { frames := 1, cells := 0, slots := 0, locals := 30 }
abbrev rm_X1_init : Room := { frames := 1, cells := 1, slots := 4, locals := 30 }
abbrev rm_X1_begin : Room := { frames := 0, cells := 0, slots := 0, locals := 0 }
abbrev rm_X1_takePattern : Room := { frames := 6, cells := 2, slots := 10, locals := 90 }
abbrev rm_X1_takeHash : Room := { frames := 1, cells := 0, slots := 0, locals := 21 }
abbrev rm_X1_takeMatching : Room := { frames := 0, cells := 0, slots := 0, locals := 0 }
abbrev rm_X1_endBy : Room := { frames := 0, cells := 0, slots := 0, locals := 0 }
abbrev rm_X1_hasEnded : Room := { frames := 0, cells := 0, slots := 0, locals := 0 }
abbrev rm_X1_hasEither : Room := { frames := 0, cells := 0, slots := 0, locals := 0 }
abbrev rm_X1_covers : Room := { frames := 2, cells := 0, slots := 0, locals := 48 }
abbrev rm_X1_hashOf : Room := { frames := 0, cells := 0, slots := 0, locals := 0 }
abbrev rm_X2_init : Room := { frames := 1, cells := 0, slots := 0, locals := 30 }
abbrev rm_X2_fits : Room := { frames := 1, cells := 0, slots := 0, locals := 26 }
abbrev rm_X3_init : Room := { frames := 1, cells := 0, slots := 0, locals := 30 }
abbrev rm_X3_holds : Room := { frames := 0, cells := 0, slots := 0, locals := 0 }
abbrev rm_X4_init : Room := { frames := 2, cells := 83, slots := 640, locals := 60 }
abbrev rm_X4_addLine : Room := { frames := 8, cells := 3, slots := 18, locals := 132 }
abbrev rm_X4_addPattern : Room := { frames := 8, cells := 6, slots := 34, locals := 133 }
abbrev rm_X4_addHashed : Room := { frames := 8, cells := 6, slots := 36, locals := 133 }
abbrev rm_X4_remove : Room := { frames := 7, cells := 1, slots := 6, locals := 111 }
abbrev rm_X4_certify : Room := { frames := 8, cells := 9, slots := 55, locals := 132 }
abbrev rm_X4_revokeSpan : Room := { frames := 8, cells := 5, slots := 27, locals := 132 }
abbrev rm_X4_setFirstSight : Room := { frames := 7, cells := 1, slots := 6, locals := 112 }
abbrev rm_X4_answer : Room := { frames := 8, cells := 7, slots := 40, locals := 146 }
abbrev rm_X4_confirm : Room := { frames := 8, cells := 4, slots := 22, locals := 138 }
abbrev rm_X4_turn : Room := { frames := 8, cells := 8, slots := 48, locals := 141 }
abbrev rm_X4_pass : Room := { frames := 7, cells := 2, slots := 12, locals := 112 }
abbrev rm_X4_clean : Room := { frames := 7, cells := 1, slots := 6, locals := 112 }
abbrev rm_X4_judge : Room := { frames := 8, cells := 4, slots := 24, locals := 146 }
abbrev rm_X4_judgeByReading : Room := { frames := 8, cells := 3, slots := 18, locals := 133 }
abbrev rm_X4_day : Room := { frames := 0, cells := 0, slots := 0, locals := 0 }
abbrev rm_X4_lines : Room := { frames := 0, cells := 0, slots := 0, locals := 0 }
abbrev rm_X4_keyOf : Room := { frames := 7, cells := 1, slots := 6, locals := 111 }
abbrev rm_X4_seen : Room := { frames := 7, cells := 1, slots := 6, locals := 111 }
abbrev rm_X4_end : Room := { frames := 7, cells := 1, slots := 6, locals := 111 }
abbrev rm_X4_matches : Room := { frames := 8, cells := 3, slots := 18, locals := 133 }
abbrev rm_X4_find : Room := { frames := 8, cells := 2, slots := 12, locals := 133 }
abbrev rm_X4_linesOf : Room := { frames := 8, cells := 1, slots := 6, locals := 132 }
abbrev rm_X4_waiting : Room := { frames := 0, cells := 0, slots := 0, locals := 0 }
abbrev rm_X4_requireWithin : Room := { frames := 6, cells := 1, slots := 6, locals := 90 }
abbrev rm_X4_requireKey : Room := { frames := 7, cells := 1, slots := 6, locals := 112 }
abbrev rm_X4_requireNameAndPort : Room := { frames := 7, cells := 2, slots := 12, locals := 112 }
abbrev rm_X4_lineAt : Room := { frames := 6, cells := 1, slots := 6, locals := 90 }
abbrev rm_X4_certificateAt : Room := { frames := 6, cells := 1, slots := 6, locals := 90 }
abbrev rm_X4_appendLine : Room := { frames := 6, cells := 1, slots := 6, locals := 90 }
abbrev rm_X4_appendSighted : Room := { frames := 7, cells := 3, slots := 16, locals := 114 }
abbrev rm_X4_takeOut : Room := { frames := 0, cells := 0, slots := 0, locals := 0 }
abbrev rm_X4_turnLines : Room := { frames := 7, cells := 0, slots := 0, locals := 113 }
abbrev rm_X4_isToBeCleaned : Room := { frames := 1, cells := 0, slots := 0, locals := 21 }
abbrev rm_X4_seeToday : Room := { frames := 3, cells := 0, slots := 0, locals := 73 }
abbrev rm_X4_letWait : Room := { frames := 0, cells := 0, slots := 0, locals := 0 }
abbrev rm_X4_judgementOf : Room := { frames := 5, cells := 0, slots := 0, locals := 121 }
abbrev rm_X4_judgementByLines : Room := { frames := 3, cells := 0, slots := 0, locals := 73 }
abbrev rm_X4_judgementByMatch : Room := { frames := 2, cells := 0, slots := 0, locals := 42 }
abbrev rm_X4_isLivePlain : Room := { frames := 1, cells := 0, slots := 0, locals := 21 }
abbrev rm_X4_kindOf : Room := { frames := 0, cells := 0, slots := 0, locals := 0 }
abbrev rm_X4_authorityOf : Room := { frames := 0, cells := 0, slots := 0, locals := 0 }
abbrev rm_X4_isGood : Room := { frames := 4, cells := 0, slots := 0, locals := 98 }
abbrev rm_X4_hasAuthority : Room := { frames := 3, cells := 0, slots := 0, locals := 73 }
abbrev rm_X4_isInRevokedSpan : Room := { frames := 1, cells := 0, slots := 0, locals := 22 }
abbrev rm_X4_countRevokedCertificates : Room := { frames := 2, cells := 0, slots := 0, locals := 44 }
abbrev rm_X4_isSameAt : Room := { frames := 0, cells := 0, slots := 0, locals := 0 }
abbrev rm_X4_appendLine0 : Room := { frames := 1, cells := 0, slots := 0, locals := 40 }
theorem hd_X0_init : yX0_init.cls ≠ "java/lang/invoke/MethodHandle" ∧ yX0_init.cls ≠ "java/lang/invoke/VarHandle" ∧ (parseMethodDescriptor yX0_init.desc).map (fun d => d.parameters.length) = some 7 := by decide +kernel
theorem hd_X1_begin : yX1_begin.cls = RX1 ∧ yX1_begin.cls ≠ "java/lang/invoke/MethodHandle" ∧ yX1_begin.cls ≠ "java/lang/invoke/VarHandle" ∧ (parseMethodDescriptor yX1_begin.desc).map (fun d => d.parameters.length) = some 3 := by decide +kernel
theorem hd_X1_covers : yX1_covers.cls = RX1 ∧ yX1_covers.cls ≠ "java/lang/invoke/MethodHandle" ∧ yX1_covers.cls ≠ "java/lang/invoke/VarHandle" ∧ (parseMethodDescriptor yX1_covers.desc).map (fun d => d.parameters.length) = some 2 := by decide +kernel
theorem hd_X1_endBy : yX1_endBy.cls = RX1 ∧ yX1_endBy.cls ≠ "java/lang/invoke/MethodHandle" ∧ yX1_endBy.cls ≠ "java/lang/invoke/VarHandle" ∧ (parseMethodDescriptor yX1_endBy.desc).map (fun d => d.parameters.length) = some 1 := by decide +kernel
theorem hd_X1_hasEither : yX1_hasEither.cls = RX1 ∧ yX1_hasEither.cls ≠ "java/lang/invoke/MethodHandle" ∧ yX1_hasEither.cls ≠ "java/lang/invoke/VarHandle" ∧ (parseMethodDescriptor yX1_hasEither.desc).map (fun d => d.parameters.length) = some 2 := by decide +kernel
theorem hd_X1_hasEnded : yX1_hasEnded.cls = RX1 ∧ yX1_hasEnded.cls ≠ "java/lang/invoke/MethodHandle" ∧ yX1_hasEnded.cls ≠ "java/lang/invoke/VarHandle" ∧ (parseMethodDescriptor yX1_hasEnded.desc).map (fun d => d.parameters.length) = some 1 := by decide +kernel
theorem hd_X1_hashOf : yX1_hashOf.cls ≠ "java/lang/invoke/MethodHandle" ∧ yX1_hashOf.cls ≠ "java/lang/invoke/VarHandle" ∧ (parseMethodDescriptor yX1_hashOf.desc).map (fun d => d.parameters.length) = some 2 := by decide +kernel
theorem hd_X1_init : yX1_init.cls ≠ "java/lang/invoke/MethodHandle" ∧ yX1_init.cls ≠ "java/lang/invoke/VarHandle" ∧ (parseMethodDescriptor yX1_init.desc).map (fun d => d.parameters.length) = some 0 := by decide +kernel
theorem hd_X1_takeHash : yX1_takeHash.cls = RX1 ∧ yX1_takeHash.cls ≠ "java/lang/invoke/MethodHandle" ∧ yX1_takeHash.cls ≠ "java/lang/invoke/VarHandle" ∧ (parseMethodDescriptor yX1_takeHash.desc).map (fun d => d.parameters.length) = some 3 := by decide +kernel
theorem hd_X1_takeMatching : yX1_takeMatching.cls = RX1 ∧ yX1_takeMatching.cls ≠ "java/lang/invoke/MethodHandle" ∧ yX1_takeMatching.cls ≠ "java/lang/invoke/VarHandle" ∧ (parseMethodDescriptor yX1_takeMatching.desc).map (fun d => d.parameters.length) = some 1 := by decide +kernel
theorem hd_X1_takePattern : yX1_takePattern.cls = RX1 ∧ yX1_takePattern.cls ≠ "java/lang/invoke/MethodHandle" ∧ yX1_takePattern.cls ≠ "java/lang/invoke/VarHandle" ∧ (parseMethodDescriptor yX1_takePattern.desc).map (fun d => d.parameters.length) = some 4 := by decide +kernel
theorem hd_X2_fits : yX2_fits.cls = RX2 ∧ yX2_fits.cls ≠ "java/lang/invoke/MethodHandle" ∧ yX2_fits.cls ≠ "java/lang/invoke/VarHandle" ∧ (parseMethodDescriptor yX2_fits.desc).map (fun d => d.parameters.length) = some 2 := by decide +kernel
theorem hd_X2_init : yX2_init.cls ≠ "java/lang/invoke/MethodHandle" ∧ yX2_init.cls ≠ "java/lang/invoke/VarHandle" ∧ (parseMethodDescriptor yX2_init.desc).map (fun d => d.parameters.length) = some 4 := by decide +kernel
theorem hd_X3_holds : yX3_holds.cls = RX3 ∧ yX3_holds.cls ≠ "java/lang/invoke/MethodHandle" ∧ yX3_holds.cls ≠ "java/lang/invoke/VarHandle" ∧ (parseMethodDescriptor yX3_holds.desc).map (fun d => d.parameters.length) = some 2 := by decide +kernel
theorem hd_X3_init : yX3_init.cls ≠ "java/lang/invoke/MethodHandle" ∧ yX3_init.cls ≠ "java/lang/invoke/VarHandle" ∧ (parseMethodDescriptor yX3_init.desc).map (fun d => d.parameters.length) = some 3 := by decide +kernel
theorem hd_X4_addHashed : yX4_addHashed.cls = RX4 ∧ yX4_addHashed.cls ≠ "java/lang/invoke/MethodHandle" ∧ yX4_addHashed.cls ≠ "java/lang/invoke/VarHandle" ∧ (parseMethodDescriptor yX4_addHashed.desc).map (fun d => d.parameters.length) = some 5 := by decide +kernel
theorem hd_X4_addLine : yX4_addLine.cls = RX4 ∧ yX4_addLine.cls ≠ "java/lang/invoke/MethodHandle" ∧ yX4_addLine.cls ≠ "java/lang/invoke/VarHandle" ∧ (parseMethodDescriptor yX4_addLine.desc).map (fun d => d.parameters.length) = some 2 := by decide +kernel
theorem hd_X4_addPattern : yX4_addPattern.cls = RX4 ∧ yX4_addPattern.cls ≠ "java/lang/invoke/MethodHandle" ∧ yX4_addPattern.cls ≠ "java/lang/invoke/VarHandle" ∧ (parseMethodDescriptor yX4_addPattern.desc).map (fun d => d.parameters.length) = some 5 := by decide +kernel
theorem hd_X4_answer : yX4_answer.cls = RX4 ∧ yX4_answer.cls ≠ "java/lang/invoke/MethodHandle" ∧ yX4_answer.cls ≠ "java/lang/invoke/VarHandle" ∧ (parseMethodDescriptor yX4_answer.desc).map (fun d => d.parameters.length) = some 4 := by decide +kernel
theorem hd_X4_appendLine : yX4_appendLine.cls = RX4 ∧ yX4_appendLine.cls ≠ "java/lang/invoke/MethodHandle" ∧ yX4_appendLine.cls ≠ "java/lang/invoke/VarHandle" ∧ (parseMethodDescriptor yX4_appendLine.desc).map (fun d => d.parameters.length) = some 2 := by decide +kernel
theorem hd_X4_appendSighted : yX4_appendSighted.cls = RX4 ∧ yX4_appendSighted.cls ≠ "java/lang/invoke/MethodHandle" ∧ yX4_appendSighted.cls ≠ "java/lang/invoke/VarHandle" ∧ (parseMethodDescriptor yX4_appendSighted.desc).map (fun d => d.parameters.length) = some 3 := by decide +kernel
theorem hd_X4_authorityOf : yX4_authorityOf.cls ≠ "java/lang/invoke/MethodHandle" ∧ yX4_authorityOf.cls ≠ "java/lang/invoke/VarHandle" ∧ (parseMethodDescriptor yX4_authorityOf.desc).map (fun d => d.parameters.length) = some 1 := by decide +kernel
theorem hd_X4_certificateAt : yX4_certificateAt.cls = RX4 ∧ yX4_certificateAt.cls ≠ "java/lang/invoke/MethodHandle" ∧ yX4_certificateAt.cls ≠ "java/lang/invoke/VarHandle" ∧ (parseMethodDescriptor yX4_certificateAt.desc).map (fun d => d.parameters.length) = some 1 := by decide +kernel
theorem hd_X4_certify : yX4_certify.cls = RX4 ∧ yX4_certify.cls ≠ "java/lang/invoke/MethodHandle" ∧ yX4_certify.cls ≠ "java/lang/invoke/VarHandle" ∧ (parseMethodDescriptor yX4_certify.desc).map (fun d => d.parameters.length) = some 7 := by decide +kernel
theorem hd_X4_clean : yX4_clean.cls = RX4 ∧ yX4_clean.cls ≠ "java/lang/invoke/MethodHandle" ∧ yX4_clean.cls ≠ "java/lang/invoke/VarHandle" ∧ (parseMethodDescriptor yX4_clean.desc).map (fun d => d.parameters.length) = some 1 := by decide +kernel
theorem hd_X4_confirm : yX4_confirm.cls = RX4 ∧ yX4_confirm.cls ≠ "java/lang/invoke/MethodHandle" ∧ yX4_confirm.cls ≠ "java/lang/invoke/VarHandle" ∧ (parseMethodDescriptor yX4_confirm.desc).map (fun d => d.parameters.length) = some 0 := by decide +kernel
theorem hd_X4_countRevokedCertificates : yX4_countRevokedCertificates.cls = RX4 ∧ yX4_countRevokedCertificates.cls ≠ "java/lang/invoke/MethodHandle" ∧ yX4_countRevokedCertificates.cls ≠ "java/lang/invoke/VarHandle" ∧ (parseMethodDescriptor yX4_countRevokedCertificates.desc).map (fun d => d.parameters.length) = some 0 := by decide +kernel
theorem hd_X4_day : yX4_day.cls = RX4 ∧ yX4_day.cls ≠ "java/lang/invoke/MethodHandle" ∧ yX4_day.cls ≠ "java/lang/invoke/VarHandle" ∧ (parseMethodDescriptor yX4_day.desc).map (fun d => d.parameters.length) = some 0 := by decide +kernel
theorem hd_X4_end : yX4_end.cls = RX4 ∧ yX4_end.cls ≠ "java/lang/invoke/MethodHandle" ∧ yX4_end.cls ≠ "java/lang/invoke/VarHandle" ∧ (parseMethodDescriptor yX4_end.desc).map (fun d => d.parameters.length) = some 1 := by decide +kernel
theorem hd_X4_find : yX4_find.cls = RX4 ∧ yX4_find.cls ≠ "java/lang/invoke/MethodHandle" ∧ yX4_find.cls ≠ "java/lang/invoke/VarHandle" ∧ (parseMethodDescriptor yX4_find.desc).map (fun d => d.parameters.length) = some 2 := by decide +kernel
theorem hd_X4_hasAuthority : yX4_hasAuthority.cls = RX4 ∧ yX4_hasAuthority.cls ≠ "java/lang/invoke/MethodHandle" ∧ yX4_hasAuthority.cls ≠ "java/lang/invoke/VarHandle" ∧ (parseMethodDescriptor yX4_hasAuthority.desc).map (fun d => d.parameters.length) = some 3 := by decide +kernel
theorem hd_X4_init : yX4_init.cls ≠ "java/lang/invoke/MethodHandle" ∧ yX4_init.cls ≠ "java/lang/invoke/VarHandle" ∧ (parseMethodDescriptor yX4_init.desc).map (fun d => d.parameters.length) = some 0 := by decide +kernel
theorem hd_X4_isGood : yX4_isGood.cls = RX4 ∧ yX4_isGood.cls ≠ "java/lang/invoke/MethodHandle" ∧ yX4_isGood.cls ≠ "java/lang/invoke/VarHandle" ∧ (parseMethodDescriptor yX4_isGood.desc).map (fun d => d.parameters.length) = some 3 := by decide +kernel
theorem hd_X4_isInRevokedSpan : yX4_isInRevokedSpan.cls = RX4 ∧ yX4_isInRevokedSpan.cls ≠ "java/lang/invoke/MethodHandle" ∧ yX4_isInRevokedSpan.cls ≠ "java/lang/invoke/VarHandle" ∧ (parseMethodDescriptor yX4_isInRevokedSpan.desc).map (fun d => d.parameters.length) = some 1 := by decide +kernel
theorem hd_X4_isLivePlain : yX4_isLivePlain.cls = RX4 ∧ yX4_isLivePlain.cls ≠ "java/lang/invoke/MethodHandle" ∧ yX4_isLivePlain.cls ≠ "java/lang/invoke/VarHandle" ∧ (parseMethodDescriptor yX4_isLivePlain.desc).map (fun d => d.parameters.length) = some 1 := by decide +kernel
theorem hd_X4_isSameAt : yX4_isSameAt.cls ≠ "java/lang/invoke/MethodHandle" ∧ yX4_isSameAt.cls ≠ "java/lang/invoke/VarHandle" ∧ (parseMethodDescriptor yX4_isSameAt.desc).map (fun d => d.parameters.length) = some 3 := by decide +kernel
theorem hd_X4_isToBeCleaned : yX4_isToBeCleaned.cls = RX4 ∧ yX4_isToBeCleaned.cls ≠ "java/lang/invoke/MethodHandle" ∧ yX4_isToBeCleaned.cls ≠ "java/lang/invoke/VarHandle" ∧ (parseMethodDescriptor yX4_isToBeCleaned.desc).map (fun d => d.parameters.length) = some 2 := by decide +kernel
theorem hd_X4_judge : yX4_judge.cls = RX4 ∧ yX4_judge.cls ≠ "java/lang/invoke/MethodHandle" ∧ yX4_judge.cls ≠ "java/lang/invoke/VarHandle" ∧ (parseMethodDescriptor yX4_judge.desc).map (fun d => d.parameters.length) = some 4 := by decide +kernel
theorem hd_X4_judgeByReading : yX4_judgeByReading.cls = RX4 ∧ yX4_judgeByReading.cls ≠ "java/lang/invoke/MethodHandle" ∧ yX4_judgeByReading.cls ≠ "java/lang/invoke/VarHandle" ∧ (parseMethodDescriptor yX4_judgeByReading.desc).map (fun d => d.parameters.length) = some 3 := by decide +kernel
theorem hd_X4_judgementByLines : yX4_judgementByLines.cls = RX4 ∧ yX4_judgementByLines.cls ≠ "java/lang/invoke/MethodHandle" ∧ yX4_judgementByLines.cls ≠ "java/lang/invoke/VarHandle" ∧ (parseMethodDescriptor yX4_judgementByLines.desc).map (fun d => d.parameters.length) = some 4 := by decide +kernel
theorem hd_X4_judgementByMatch : yX4_judgementByMatch.cls = RX4 ∧ yX4_judgementByMatch.cls ≠ "java/lang/invoke/MethodHandle" ∧ yX4_judgementByMatch.cls ≠ "java/lang/invoke/VarHandle" ∧ (parseMethodDescriptor yX4_judgementByMatch.desc).map (fun d => d.parameters.length) = some 3 := by decide +kernel
theorem hd_X4_judgementOf : yX4_judgementOf.cls = RX4 ∧ yX4_judgementOf.cls ≠ "java/lang/invoke/MethodHandle" ∧ yX4_judgementOf.cls ≠ "java/lang/invoke/VarHandle" ∧ (parseMethodDescriptor yX4_judgementOf.desc).map (fun d => d.parameters.length) = some 4 := by decide +kernel
theorem hd_X4_keyOf : yX4_keyOf.cls = RX4 ∧ yX4_keyOf.cls ≠ "java/lang/invoke/MethodHandle" ∧ yX4_keyOf.cls ≠ "java/lang/invoke/VarHandle" ∧ (parseMethodDescriptor yX4_keyOf.desc).map (fun d => d.parameters.length) = some 1 := by decide +kernel
theorem hd_X4_kindOf : yX4_kindOf.cls ≠ "java/lang/invoke/MethodHandle" ∧ yX4_kindOf.cls ≠ "java/lang/invoke/VarHandle" ∧ (parseMethodDescriptor yX4_kindOf.desc).map (fun d => d.parameters.length) = some 1 := by decide +kernel
theorem hd_X4_letWait : yX4_letWait.cls = RX4 ∧ yX4_letWait.cls ≠ "java/lang/invoke/MethodHandle" ∧ yX4_letWait.cls ≠ "java/lang/invoke/VarHandle" ∧ (parseMethodDescriptor yX4_letWait.desc).map (fun d => d.parameters.length) = some 3 := by decide +kernel
theorem hd_X4_lineAt : yX4_lineAt.cls = RX4 ∧ yX4_lineAt.cls ≠ "java/lang/invoke/MethodHandle" ∧ yX4_lineAt.cls ≠ "java/lang/invoke/VarHandle" ∧ (parseMethodDescriptor yX4_lineAt.desc).map (fun d => d.parameters.length) = some 1 := by decide +kernel
theorem hd_X4_lines : yX4_lines.cls = RX4 ∧ yX4_lines.cls ≠ "java/lang/invoke/MethodHandle" ∧ yX4_lines.cls ≠ "java/lang/invoke/VarHandle" ∧ (parseMethodDescriptor yX4_lines.desc).map (fun d => d.parameters.length) = some 0 := by decide +kernel
theorem hd_X4_linesOf : yX4_linesOf.cls = RX4 ∧ yX4_linesOf.cls ≠ "java/lang/invoke/MethodHandle" ∧ yX4_linesOf.cls ≠ "java/lang/invoke/VarHandle" ∧ (parseMethodDescriptor yX4_linesOf.desc).map (fun d => d.parameters.length) = some 1 := by decide +kernel
theorem hd_X4_matches : yX4_matches.cls = RX4 ∧ yX4_matches.cls ≠ "java/lang/invoke/MethodHandle" ∧ yX4_matches.cls ≠ "java/lang/invoke/VarHandle" ∧ (parseMethodDescriptor yX4_matches.desc).map (fun d => d.parameters.length) = some 3 := by decide +kernel
theorem hd_X4_pass : yX4_pass.cls = RX4 ∧ yX4_pass.cls ≠ "java/lang/invoke/MethodHandle" ∧ yX4_pass.cls ≠ "java/lang/invoke/VarHandle" ∧ (parseMethodDescriptor yX4_pass.desc).map (fun d => d.parameters.length) = some 1 := by decide +kernel
theorem hd_X4_remove : yX4_remove.cls = RX4 ∧ yX4_remove.cls ≠ "java/lang/invoke/MethodHandle" ∧ yX4_remove.cls ≠ "java/lang/invoke/VarHandle" ∧ (parseMethodDescriptor yX4_remove.desc).map (fun d => d.parameters.length) = some 1 := by decide +kernel
theorem hd_X4_requireKey : yX4_requireKey.cls ≠ "java/lang/invoke/MethodHandle" ∧ yX4_requireKey.cls ≠ "java/lang/invoke/VarHandle" ∧ (parseMethodDescriptor yX4_requireKey.desc).map (fun d => d.parameters.length) = some 1 := by decide +kernel
theorem hd_X4_requireNameAndPort : yX4_requireNameAndPort.cls ≠ "java/lang/invoke/MethodHandle" ∧ yX4_requireNameAndPort.cls ≠ "java/lang/invoke/VarHandle" ∧ (parseMethodDescriptor yX4_requireNameAndPort.desc).map (fun d => d.parameters.length) = some 2 := by decide +kernel
theorem hd_X4_requireWithin : yX4_requireWithin.cls ≠ "java/lang/invoke/MethodHandle" ∧ yX4_requireWithin.cls ≠ "java/lang/invoke/VarHandle" ∧ (parseMethodDescriptor yX4_requireWithin.desc).map (fun d => d.parameters.length) = some 3 := by decide +kernel
theorem hd_X4_revokeSpan : yX4_revokeSpan.cls = RX4 ∧ yX4_revokeSpan.cls ≠ "java/lang/invoke/MethodHandle" ∧ yX4_revokeSpan.cls ≠ "java/lang/invoke/VarHandle" ∧ (parseMethodDescriptor yX4_revokeSpan.desc).map (fun d => d.parameters.length) = some 3 := by decide +kernel
theorem hd_X4_seeToday : yX4_seeToday.cls = RX4 ∧ yX4_seeToday.cls ≠ "java/lang/invoke/MethodHandle" ∧ yX4_seeToday.cls ≠ "java/lang/invoke/VarHandle" ∧ (parseMethodDescriptor yX4_seeToday.desc).map (fun d => d.parameters.length) = some 4 := by decide +kernel
theorem hd_X4_seen : yX4_seen.cls = RX4 ∧ yX4_seen.cls ≠ "java/lang/invoke/MethodHandle" ∧ yX4_seen.cls ≠ "java/lang/invoke/VarHandle" ∧ (parseMethodDescriptor yX4_seen.desc).map (fun d => d.parameters.length) = some 1 := by decide +kernel
theorem hd_X4_setFirstSight : yX4_setFirstSight.cls = RX4 ∧ yX4_setFirstSight.cls ≠ "java/lang/invoke/MethodHandle" ∧ yX4_setFirstSight.cls ≠ "java/lang/invoke/VarHandle" ∧ (parseMethodDescriptor yX4_setFirstSight.desc).map (fun d => d.parameters.length) = some 2 := by decide +kernel
theorem hd_X4_takeOut : yX4_takeOut.cls = RX4 ∧ yX4_takeOut.cls ≠ "java/lang/invoke/MethodHandle" ∧ yX4_takeOut.cls ≠ "java/lang/invoke/VarHandle" ∧ (parseMethodDescriptor yX4_takeOut.desc).map (fun d => d.parameters.length) = some 1 := by decide +kernel
theorem hd_X4_turn : yX4_turn.cls = RX4 ∧ yX4_turn.cls ≠ "java/lang/invoke/MethodHandle" ∧ yX4_turn.cls ≠ "java/lang/invoke/VarHandle" ∧ (parseMethodDescriptor yX4_turn.desc).map (fun d => d.parameters.length) = some 5 := by decide +kernel
theorem hd_X4_turnLines : yX4_turnLines.cls = RX4 ∧ yX4_turnLines.cls ≠ "java/lang/invoke/MethodHandle" ∧ yX4_turnLines.cls ≠ "java/lang/invoke/VarHandle" ∧ (parseMethodDescriptor yX4_turnLines.desc).map (fun d => d.parameters.length) = some 5 := by decide +kernel
theorem hd_X4_waiting : yX4_waiting.cls = RX4 ∧ yX4_waiting.cls ≠ "java/lang/invoke/MethodHandle" ∧ yX4_waiting.cls ≠ "java/lang/invoke/VarHandle" ∧ (parseMethodDescriptor yX4_waiting.desc).map (fun d => d.parameters.length) = some 0 := by decide +kernel
abbrev rm_L_draw : Room := { frames := 0, cells := 0, slots := 0, locals := 0 }
abbrev rm_L_name : Room := { frames := 0, cells := 0, slots := 0, locals := 0 }
abbrev rm_L_due : Room := { frames := 9, cells := 240, slots := 1440, locals := 160 }
abbrev rm_L_isBook : Room := { frames := 10, cells := 540, slots := 3240, locals := 190 }
abbrev rm_L_answers : Room := { frames := 10, cells := 560, slots := 3360, locals := 200 }
abbrev rm_L_turns : Room := { frames := 10, cells := 560, slots := 3360, locals := 200 }
abbrev rm_L_cleans : Room := { frames := 9, cells := 170, slots := 1020, locals := 160 }
abbrev rm_L_adds : Room := { frames := 9, cells := 100, slots := 600, locals := 160 }
abbrev rm_L_certificates : Room := { frames := 9, cells := 14, slots := 82, locals := 160 }
abbrev rm_L_confirms : Room := { frames := 9, cells := 10, slots := 60, locals := 160 }
abbrev rm_L_step : Room := { frames := 11, cells := 580, slots := 3480, locals := 260 }
theorem hd_L_draw : yL_draw.cls ≠ "java/lang/invoke/MethodHandle" ∧ yL_draw.cls ≠ "java/lang/invoke/VarHandle" ∧ (parseMethodDescriptor yL_draw.desc).map (fun d => d.parameters.length) = some 2 := by decide +kernel
theorem hd_L_name : yL_name.cls ≠ "java/lang/invoke/MethodHandle" ∧ yL_name.cls ≠ "java/lang/invoke/VarHandle" ∧ (parseMethodDescriptor yL_name.desc).map (fun d => d.parameters.length) = some 1 := by decide +kernel
theorem hd_L_step : yL_step.cls ≠ "java/lang/invoke/MethodHandle" ∧ yL_step.cls ≠ "java/lang/invoke/VarHandle" ∧ (parseMethodDescriptor yL_step.desc).map (fun d => d.parameters.length) = some 5 := by decide +kernel
theorem hd_L_adds : yL_adds.cls ≠ "java/lang/invoke/MethodHandle" ∧ yL_adds.cls ≠ "java/lang/invoke/VarHandle" ∧ (parseMethodDescriptor yL_adds.desc).map (fun d => d.parameters.length) = some 7 := by decide +kernel
theorem hd_L_certificates : yL_certificates.cls ≠ "java/lang/invoke/MethodHandle" ∧ yL_certificates.cls ≠ "java/lang/invoke/VarHandle" ∧ (parseMethodDescriptor yL_certificates.desc).map (fun d => d.parameters.length) = some 6 := by decide +kernel
theorem hd_L_due : yL_due.cls ≠ "java/lang/invoke/MethodHandle" ∧ yL_due.cls ≠ "java/lang/invoke/VarHandle" ∧ (parseMethodDescriptor yL_due.desc).map (fun d => d.parameters.length) = some 5 := by decide +kernel
theorem hd_L_answers : yL_answers.cls ≠ "java/lang/invoke/MethodHandle" ∧ yL_answers.cls ≠ "java/lang/invoke/VarHandle" ∧ (parseMethodDescriptor yL_answers.desc).map (fun d => d.parameters.length) = some 6 := by decide +kernel
theorem hd_L_turns : yL_turns.cls ≠ "java/lang/invoke/MethodHandle" ∧ yL_turns.cls ≠ "java/lang/invoke/VarHandle" ∧ (parseMethodDescriptor yL_turns.desc).map (fun d => d.parameters.length) = some 7 := by decide +kernel
theorem hd_L_confirms : yL_confirms.cls ≠ "java/lang/invoke/MethodHandle" ∧ yL_confirms.cls ≠ "java/lang/invoke/VarHandle" ∧ (parseMethodDescriptor yL_confirms.desc).map (fun d => d.parameters.length) = some 2 := by decide +kernel
theorem hd_L_cleans : yL_cleans.cls ≠ "java/lang/invoke/MethodHandle" ∧ yL_cleans.cls ≠ "java/lang/invoke/VarHandle" ∧ (parseMethodDescriptor yL_cleans.desc).map (fun d => d.parameters.length) = some 3 := by decide +kernel
theorem hd_L_isBook : yL_isBook.cls ≠ "java/lang/invoke/MethodHandle" ∧ yL_isBook.cls ≠ "java/lang/invoke/VarHandle" ∧ (parseMethodDescriptor yL_isBook.desc).map (fun d => d.parameters.length) = some 4 := by decide +kernel
section HMisc
variable {p : Program} {l : Launch} {e : Env} {R : Room} {s : State} {m : MethodId} {args : Array Value} {below : List Frame} {meth : Method} {c : Code} {nL : Nat} {g : hG} {X : va_W} {Q : State → Prop} {S : hS} {cells slots : Nat} {lv : List (Nat × Value)} {pc : Nat} {st rest : List Value} {cc : ByteArray} {Ts : List Cond} {own : String}
theorem q_objInit {b idx : Nat} (F : hF p l s m args meth c cc nL Ts own g) (hlk : Cond.methodLink own idx objectInit ∈ wsL_law) (d : decode cc pc = .ok (.invokespecial idx, 3)) (hR : 1 ≤ R.frames ∧ (st.map fun v => v.category).sum + 12 ≤ R.locals)
    (kk : V p l e R s m args below meth c nL g X Q S cells slots lv (pc + 3) st) : V p l e R s m args below meth c nL g X Q S cells slots lv pc (.ref b :: st) := fun H locs ls hw0 hS0 hl =>
  W.objInit F.1.1 F.1.2.1 F.1.2.2.2.1 (hk_word F.2.1 hlk args) (hk_word F.2.1 (List.mem_of_getElem? (i := 8) (by decide +kernel)) args) (hk_word F.2.1 (List.mem_of_getElem? (i := 9) (by decide +kernel)) args) rfl (hl.1.trans F.1.2.2.1.symm) rfl d hR.1 (by show 2 * 0 + _ + 12 ≤ _; omega) (kk H locs ls hw0 hS0 hl)
theorem q_min {index : Nat} (F : hF p l s m args meth c cc nL Ts own g) (hlk : Cond.methodLink own index Lib.Math.min.name ∈ wsL_law) {x y : Int32} (d : decode cc pc = .ok (.invokestatic index, 3)) (hR : 1 ≤ R.frames ∧ (st.map fun v => v.category).sum + 13 ≤ R.locals) (hf : cells ≤ R.cells ∧ slots ≤ R.slots)
    (kk : V p l e R s m args below meth c nL g X Q S cells slots lv (pc + 3) (.int (if y < x then y else x) :: st)) : V p l e R s m args below meth c nL g X Q S cells slots lv pc (.int y :: .int x :: st) := fun H locs ls hw0 hS0 hl =>
  va_mmin F.1.1 F.1.2.1 (F.1.2.2.1.trans hl.1.symm) F.1.2.2.2.1 (hk_word F.2.1 hlk args) (hk_word F.2.1 (List.mem_of_getElem? (i := 245) (by decide +kernel)) args) (hk_word F.2.1 (List.mem_of_getElem? (i := 246) (by decide +kernel)) args) (hk_word F.2.1 (List.mem_of_getElem? (i := 247) (by decide +kernel)) args) hR.1 hR.2 hf.1 hf.2 d (kk H locs ls hw0 hS0 hl)
theorem isO_nO (S : hS) (k q : Nat) : isO (nO S k q) q k := ⟨by rw [sL_nO]; exact List.mem_append_right _ List.mem_cons_self, va_up_self _ _ _⟩
theorem isO_nA (S : hS) (k q n : Nat) : isO (nA S k q n) q k := ⟨by rw [sL_nA]; exact List.mem_append_right _ List.mem_cons_self, va_up_self _ _ _⟩
theorem isO_nO' {a k' k q : Nat} {S : hS} (h : isO S a k') (hq : q ∉ sL S) : isO (nO S k q) a k' := ⟨by rw [sL_nO]; exact List.mem_append_left _ h.1, by rw [sK_nO, if_neg (fun z : a = q => hq (by rw [← z]; exact h.1))]; exact h.2⟩
theorem isO_nA' {a k' k q n : Nat} {S : hS} (h : isO S a k') (hq : q ∉ sL S) : isO (nA S k q n) a k' := ⟨by rw [sL_nA]; exact List.mem_append_left _ h.1, by rw [sK_nA, if_neg (fun z : a = q => hq (by rw [← z]; exact h.1))]; exact h.2⟩
/-- a truth value as an int -/
def b2 (b : Bool) : Int32 := if b then 1 else 0
theorem b2_0 {b : Bool} : b2 b = 0 ↔ b = false := by cases b <;> decide
theorem b2_t : b2 true = 1 := rfl
theorem b2_f : b2 false = 0 := rfl
theorem b2_nar (b : Bool) : narrow .boolean (.int (b2 b)) = .int (b2 b) := by cases b <;> rfl
theorem b2_isB (b : Bool) : isB (b2 b) := by cases b; exact Or.inl rfl; exact Or.inr rfl
theorem isB_b2 {x : Int32} (h : isB x) : x = b2 (x != 0) := by rcases h with rfl | rfl <;> rfl
end HMisc

