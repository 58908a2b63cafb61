/-! ===== rooms and words, by program ===== -/
abbrev rmX0_prepare : Room := { frames := 4, cells := 0, slots := 0, locals := 104 }
abbrev rmX0_restorePrepared : Room := { frames := 4, cells := 0, slots := 0, locals := 104 }
abbrev rmX0_keepPrepared : Room := { frames := 1, cells := 0, slots := 0, locals := 21 }
abbrev rmX0_restoreNewest : Room := { frames := 4, cells := 0, slots := 0, locals := 104 }
abbrev rmX1_add : Room := { frames := 0, cells := 0, slots := 0, locals := 0 }
abbrev rmX1_parse : Room := { frames := 3, cells := 0, slots := 0, locals := 63 }
abbrev rmX1_accepts : Room := { frames := 2, cells := 0, slots := 0, locals := 42 }
abbrev rmX1_beginsCommand : Room := { frames := 1, cells := 0, slots := 0, locals := 20 }
abbrev rmX1_endsCommand : Room := { frames := 1, cells := 0, slots := 0, locals := 20 }
abbrev rmX1_takesDigit : Room := { frames := 1, cells := 0, slots := 0, locals := 20 }
abbrev rmX1_numbersAfter : Room := { frames := 0, cells := 0, slots := 0, locals := 0 }
abbrev rmX2_copyFrom : Room := { frames := 3, cells := 0, slots := 0, locals := 83 }
abbrev rmX2_changeGuarantees : Room := { frames := 2, cells := 0, slots := 0, locals := 41 }
abbrev rmX2_clearVectors : Room := { frames := 2, cells := 0, slots := 0, locals := 41 }
abbrev rmX2_readKey : Room := { frames := 4, cells := 0, slots := 0, locals := 91 }
abbrev rmX2_writeKey : Room := { frames := 4, cells := 0, slots := 0, locals := 91 }
abbrev rmX2_synchronize : Room := { frames := 2, cells := 0, slots := 0, locals := 43 }
abbrev rmX2_isReadAllowed : Room := { frames := 4, cells := 0, slots := 0, locals := 91 }
abbrev rmX2_isWriteAllowed : Room := { frames := 4, cells := 0, slots := 0, locals := 91 }
abbrev rmX2_unmetByRead : Room := { frames := 3, cells := 0, slots := 0, locals := 68 }
abbrev rmX2_unmetByWrite : Room := { frames := 3, cells := 0, slots := 0, locals := 68 }
abbrev rmX2_covers : Room := { frames := 2, cells := 0, slots := 0, locals := 45 }
abbrev rmX2_greatestCount : Room := { frames := 1, cells := 0, slots := 0, locals := 21 }
abbrev rmX2_valueAt : Room := { frames := 1, cells := 0, slots := 0, locals := 22 }
abbrev rmX2_knows : Room := { frames := 0, cells := 0, slots := 0, locals := 0 }
abbrev rmX2_isLater : Room := { frames := 0, cells := 0, slots := 0, locals := 0 }
abbrev rmX2_countBreaches : Room := { frames := 1, cells := 0, slots := 0, locals := 21 }
abbrev rmX2_mixInto : Room := { frames := 2, cells := 0, slots := 0, locals := 48 }
abbrev rmX2_merge : Room := { frames := 1, cells := 0, slots := 0, locals := 21 }
abbrev rmX2_copyRow : Room := { frames := 1, cells := 0, slots := 0, locals := 40 }
abbrev rmX2_copyRows : Room := { frames := 2, cells := 0, slots := 0, locals := 61 }
abbrev rmX3_setGuarantees : Room := { frames := 5, cells := 0, slots := 0, locals := 125 }
abbrev rmX3_forget : Room := { frames := 5, cells := 0, slots := 0, locals := 125 }
abbrev rmX3_readCount : Room := { frames := 2, cells := 0, slots := 0, locals := 41 }
abbrev rmX3_writeCount : Room := { frames := 2, cells := 0, slots := 0, locals := 41 }
abbrev rmX3_read : Room := { frames := 5, cells := 0, slots := 0, locals := 125 }
abbrev rmX3_write : Room := { frames := 5, cells := 0, slots := 0, locals := 125 }
abbrev rmX3_sync : Room := { frames := 5, cells := 0, slots := 0, locals := 125 }
abbrev rmX3_readBreaches : Room := { frames := 4, cells := 0, slots := 0, locals := 91 }
abbrev rmX3_writeBreaches : Room := { frames := 4, cells := 0, slots := 0, locals := 91 }
abbrev rmX3_readableReplica : Room := { frames := 5, cells := 0, slots := 0, locals := 113 }
abbrev rmX3_writableReplica : Room := { frames := 5, cells := 0, slots := 0, locals := 113 }
abbrev rmX3_syncsForRead : Room := { frames := 5, cells := 0, slots := 0, locals := 113 }
abbrev rmX3_count : Room := { frames := 2, cells := 0, slots := 0, locals := 41 }
abbrev rmX3_clock : Room := { frames := 2, cells := 0, slots := 0, locals := 41 }
abbrev rmX3_peek : Room := { frames := 2, cells := 0, slots := 0, locals := 46 }
abbrev rmX3_compare : Room := { frames := 3, cells := 0, slots := 0, locals := 68 }
abbrev rmX3_breaches : Room := { frames := 2, cells := 0, slots := 0, locals := 41 }
abbrev rmX3_append : Room := { frames := 2, cells := 0, slots := 0, locals := 41 }
abbrev rmX3_clearText : Room := { frames := 0, cells := 0, slots := 0, locals := 0 }
abbrev rmX3_execute : Room := { frames := 6, cells := 0, slots := 0, locals := 138 }
abbrev rmX3_undo : Room := { frames := 5, cells := 0, slots := 0, locals := 125 }
abbrev rmX3_errorCount : Room := { frames := 2, cells := 0, slots := 0, locals := 41 }
abbrev rmX3_writes : Room := { frames := 0, cells := 0, slots := 0, locals := 0 }
abbrev rmX3_digest : Room := { frames := 3, cells := 0, slots := 0, locals := 72 }
abbrev rmX3_runCommand : Room := { frames := 5, cells := 0, slots := 0, locals := 116 }
abbrev rmX3_endUndoable : Room := { frames := 2, cells := 0, slots := 0, locals := 41 }
abbrev rmX3_counted : Room := { frames := 1, cells := 0, slots := 0, locals := 20 }
abbrev rmX3_isErrorCode : Room := { frames := 0, cells := 0, slots := 0, locals := 0 }
abbrev rmX3_isBelow : Room := { frames := 0, cells := 0, slots := 0, locals := 0 }
abbrev rmX3_isClient : Room := { frames := 1, cells := 0, slots := 0, locals := 21 }
abbrev rmX3_isReplica : Room := { frames := 1, cells := 0, slots := 0, locals := 21 }
abbrev rmX3_isKey : Room := { frames := 1, cells := 0, slots := 0, locals := 21 }
abbrev rmX3_only : Room := { frames := 0, cells := 0, slots := 0, locals := 0 }
abbrev rmX3_contains : Room := { frames := 0, cells := 0, slots := 0, locals := 0 }
abbrev rmX3_mix : Room := { frames := 0, cells := 0, slots := 0, locals := 0 }
abbrev rmX3_mixAll : Room := { frames := 1, cells := 0, slots := 0, locals := 22 }
abbrev rmX4_in : Room := { frames := 0, cells := 0, slots := 0, locals := 0 }
abbrev rmX4_error : Room := { frames := 0, cells := 0, slots := 0, locals := 0 }
abbrev rmX4_answered : Room := { frames := 1, cells := 0, slots := 0, locals := 21 }
abbrev rmX4_putsAside : Room := { frames := 0, cells := 0, slots := 0, locals := 0 }
abbrev rmX4_savesAside : Room := { frames := 0, cells := 0, slots := 0, locals := 0 }
abbrev rmX4_isClient : Room := { frames := 1, cells := 0, slots := 0, locals := 25 }
abbrev rmX4_isReplica : Room := { frames := 1, cells := 0, slots := 0, locals := 25 }
abbrev rmX4_isKey : Room := { frames := 1, cells := 0, slots := 0, locals := 25 }
abbrev rmX4_guarantees : Room := { frames := 0, cells := 0, slots := 0, locals := 0 }
abbrev rmX4_doesSet : Room := { frames := 2, cells := 0, slots := 0, locals := 45 }
abbrev rmX4_setGuarantees : Room := { frames := 3, cells := 0, slots := 0, locals := 68 }
abbrev rmX4_doesForget : Room := { frames := 2, cells := 0, slots := 0, locals := 45 }
abbrev rmX4_forget : Room := { frames := 3, cells := 0, slots := 0, locals := 68 }
abbrev rmX4_readCount : Room := { frames := 2, cells := 0, slots := 0, locals := 45 }
abbrev rmX4_writeCount : Room := { frames := 2, cells := 0, slots := 0, locals := 45 }
abbrev rmX4_covers : Room := { frames := 0, cells := 0, slots := 0, locals := 0 }
abbrev rmX4_breachesOfRead : Room := { frames := 1, cells := 0, slots := 0, locals := 24 }
abbrev rmX4_breachesOfWrite : Room := { frames := 1, cells := 0, slots := 0, locals := 24 }
abbrev rmX4_countsBreaches : Room := { frames := 0, cells := 0, slots := 0, locals := 0 }
abbrev rmX4_isLater : Room := { frames := 0, cells := 0, slots := 0, locals := 0 }
abbrev rmX4_valueAt : Room := { frames := 1, cells := 0, slots := 0, locals := 24 }
abbrev rmX4_doesRead : Room := { frames := 2, cells := 0, slots := 0, locals := 50 }
abbrev rmX4_read : Room := { frames := 3, cells := 0, slots := 0, locals := 77 }
abbrev rmX4_doesWrite : Room := { frames := 2, cells := 0, slots := 0, locals := 47 }
abbrev rmX4_write : Room := { frames := 3, cells := 0, slots := 0, locals := 74 }
abbrev rmX4_doesSync : Room := { frames := 2, cells := 0, slots := 0, locals := 45 }
abbrev rmX4_sync : Room := { frames := 3, cells := 0, slots := 0, locals := 71 }
abbrev rmX4_readBreaches : Room := { frames := 2, cells := 0, slots := 0, locals := 47 }
abbrev rmX4_writeBreaches : Room := { frames := 2, cells := 0, slots := 0, locals := 47 }
abbrev rmX4_readableReplica : Room := { frames := 2, cells := 0, slots := 0, locals := 47 }
abbrev rmX4_writableReplica : Room := { frames := 2, cells := 0, slots := 0, locals := 47 }
abbrev rmX4_isCoveredBy : Room := { frames := 0, cells := 0, slots := 0, locals := 0 }
abbrev rmX4_isReadBy : Room := { frames := 1, cells := 0, slots := 0, locals := 27 }
abbrev rmX4_bits : Room := { frames := 0, cells := 0, slots := 0, locals := 0 }
abbrev rmX4_syncsForRead : Room := { frames := 2, cells := 0, slots := 0, locals := 51 }
abbrev rmX4_count : Room := { frames := 2, cells := 0, slots := 0, locals := 45 }
abbrev rmX4_clock : Room := { frames := 2, cells := 0, slots := 0, locals := 45 }
abbrev rmX4_peek : Room := { frames := 2, cells := 0, slots := 0, locals := 50 }
abbrev rmX4_compare : Room := { frames := 2, cells := 0, slots := 0, locals := 45 }
abbrev rmX4_breaches : Room := { frames := 1, cells := 0, slots := 0, locals := 25 }
abbrev rmX4_append : Room := { frames := 1, cells := 0, slots := 0, locals := 25 }
abbrev rmX4_clearText : Room := { frames := 0, cells := 0, slots := 0, locals := 0 }
abbrev rmX4_here : Room := { frames := 0, cells := 0, slots := 0, locals := 0 }
abbrev rmX4_isDigit : Room := { frames := 1, cells := 0, slots := 0, locals := 25 }
abbrev rmX4_takesNumber : Room := { frames := 2, cells := 0, slots := 0, locals := 45 }
abbrev rmX4_numbersOf : Room := { frames := 0, cells := 0, slots := 0, locals := 0 }
abbrev rmX4_takesCommand : Room := { frames := 3, cells := 0, slots := 0, locals := 68 }
abbrev rmX4_doesCommand : Room := { frames := 3, cells := 0, slots := 0, locals := 77 }
abbrev rmX4_execute : Room := { frames := 4, cells := 0, slots := 0, locals := 99 }
abbrev rmX4_undo : Room := { frames := 1, cells := 0, slots := 0, locals := 21 }
abbrev rmX4_errorCount : Room := { frames := 1, cells := 0, slots := 0, locals := 25 }
abbrev rmX4_writes : Room := { frames := 0, cells := 0, slots := 0, locals := 0 }
abbrev rmX4_digest : Room := { frames := 2, cells := 0, slots := 0, locals := 50 }
theorem inX0_prepare_X0 : ∀ w ∈ u_ws (cg_T 0).1 (cg_T 0).2.1 (cg_T 0).2.2, w ∈ wsX0_prepare := by decide +kernel
theorem flX0_prepare_13 : Cond.fieldLink RX0 13 ((cg_T 0).2.1 0).1 ((cg_T 0).2.1 0).2.1 ((cg_T 0).2.1 0).2.2.1 ∈ wsX0_prepare := by decide +kernel
theorem flX0_prepare_17 : Cond.fieldLink RX0 17 ((cg_T 0).2.1 1).1 ((cg_T 0).2.1 1).2.1 ((cg_T 0).2.1 1).2.2.1 ∈ wsX0_prepare := by decide +kernel
theorem hvX2_copyFrom : yX2_copyFrom.cls = (cg_T 2).1 ∧ yX2_copyFrom.cls ≠ "java/lang/invoke/MethodHandle" ∧ yX2_copyFrom.cls ≠ "java/lang/invoke/VarHandle" ∧ (parseMethodDescriptor yX2_copyFrom.desc).map (fun d => d.parameters.length) = some 1 := by decide +kernel
theorem inX0_restorePrepared_X0 : ∀ w ∈ u_ws (cg_T 0).1 (cg_T 0).2.1 (cg_T 0).2.2, w ∈ wsX0_restorePrepared := by decide +kernel
theorem flX0_restorePrepared_13 : Cond.fieldLink RX0 13 ((cg_T 0).2.1 0).1 ((cg_T 0).2.1 0).2.1 ((cg_T 0).2.1 0).2.2.1 ∈ wsX0_restorePrepared := by decide +kernel
theorem flX0_restorePrepared_17 : Cond.fieldLink RX0 17 ((cg_T 0).2.1 1).1 ((cg_T 0).2.1 1).2.1 ((cg_T 0).2.1 1).2.2.1 ∈ wsX0_restorePrepared := by decide +kernel
theorem inX0_keepPrepared_X0 : ∀ w ∈ u_ws (cg_T 0).1 (cg_T 0).2.1 (cg_T 0).2.2, w ∈ wsX0_keepPrepared := by decide +kernel
theorem flX0_keepPrepared_17 : Cond.fieldLink RX0 17 ((cg_T 0).2.1 1).1 ((cg_T 0).2.1 1).2.1 ((cg_T 0).2.1 1).2.2.1 ∈ wsX0_keepPrepared := by decide +kernel
theorem flX0_keepPrepared_21 : Cond.fieldLink RX0 21 ((cg_T 0).2.1 2).1 ((cg_T 0).2.1 2).2.1 ((cg_T 0).2.1 2).2.2.1 ∈ wsX0_keepPrepared := by decide +kernel
theorem mmX0_keepPrepared_min : Cond.methodLink RX0 29 Lib.Math.min.name ∈ wsX0_keepPrepared ∧ Cond.static Lib.Math.min.name ∈ wsX0_keepPrepared ∧ Cond.initialized "java/lang/Math" ∈ wsX0_keepPrepared ∧ Cond.code Lib.Math.min.name Lib.Math.min.code 2 (some .int) ∈ wsX0_keepPrepared := by decide +kernel
theorem inX0_restoreNewest_X0 : ∀ w ∈ u_ws (cg_T 0).1 (cg_T 0).2.1 (cg_T 0).2.2, w ∈ wsX0_restoreNewest := by decide +kernel
theorem flX0_restoreNewest_21 : Cond.fieldLink RX0 21 ((cg_T 0).2.1 2).1 ((cg_T 0).2.1 2).2.1 ((cg_T 0).2.1 2).2.2.1 ∈ wsX0_restoreNewest := by decide +kernel
theorem flX0_restoreNewest_17 : Cond.fieldLink RX0 17 ((cg_T 0).2.1 1).1 ((cg_T 0).2.1 1).2.1 ((cg_T 0).2.1 1).2.2.1 ∈ wsX0_restoreNewest := by decide +kernel
theorem flX0_restoreNewest_13 : Cond.fieldLink RX0 13 ((cg_T 0).2.1 0).1 ((cg_T 0).2.1 0).2.1 ((cg_T 0).2.1 0).2.2.1 ∈ wsX0_restoreNewest := by decide +kernel
theorem inX1_add_X1 : ∀ w ∈ u_ws (cg_T 1).1 (cg_T 1).2.1 (cg_T 1).2.2, w ∈ wsX1_add := by decide +kernel
theorem flX1_add_15 : Cond.fieldLink RX1 15 ((cg_T 1).2.1 1).1 ((cg_T 1).2.1 1).2.1 ((cg_T 1).2.1 1).2.2.1 ∈ wsX1_add := by decide +kernel
theorem flX1_add_9 : Cond.fieldLink RX1 9 ((cg_T 1).2.1 0).1 ((cg_T 1).2.1 0).2.1 ((cg_T 1).2.1 0).2.2.1 ∈ wsX1_add := by decide +kernel
theorem inX1_parse_X1 : ∀ w ∈ u_ws (cg_T 1).1 (cg_T 1).2.1 (cg_T 1).2.2, w ∈ wsX1_parse := by decide +kernel
theorem flX1_parse_27 : Cond.fieldLink RX1 27 ((cg_T 1).2.1 4).1 ((cg_T 1).2.1 4).2.1 ((cg_T 1).2.1 4).2.2.1 ∈ wsX1_parse := by decide +kernel
theorem flX1_parse_30 : Cond.fieldLink RX1 30 ((cg_T 1).2.1 5).1 ((cg_T 1).2.1 5).2.1 ((cg_T 1).2.1 5).2.2.1 ∈ wsX1_parse := by decide +kernel
theorem flX1_parse_15 : Cond.fieldLink RX1 15 ((cg_T 1).2.1 1).1 ((cg_T 1).2.1 1).2.1 ((cg_T 1).2.1 1).2.2.1 ∈ wsX1_parse := by decide +kernel
theorem flX1_parse_9 : Cond.fieldLink RX1 9 ((cg_T 1).2.1 0).1 ((cg_T 1).2.1 0).2.1 ((cg_T 1).2.1 0).2.2.1 ∈ wsX1_parse := by decide +kernel
theorem hvX1_accepts : yX1_accepts.cls = (cg_T 1).1 ∧ yX1_accepts.cls ≠ "java/lang/invoke/MethodHandle" ∧ yX1_accepts.cls ≠ "java/lang/invoke/VarHandle" ∧ (parseMethodDescriptor yX1_accepts.desc).map (fun d => d.parameters.length) = some 1 := by decide +kernel
theorem inX1_accepts_X1 : ∀ w ∈ u_ws (cg_T 1).1 (cg_T 1).2.1 (cg_T 1).2.2, w ∈ wsX1_accepts := by decide +kernel
theorem flX1_accepts_37 : Cond.fieldLink RX1 37 ((cg_T 1).2.1 7).1 ((cg_T 1).2.1 7).2.1 ((cg_T 1).2.1 7).2.2.1 ∈ wsX1_accepts := by decide +kernel
theorem flX1_accepts_30 : Cond.fieldLink RX1 30 ((cg_T 1).2.1 5).1 ((cg_T 1).2.1 5).2.1 ((cg_T 1).2.1 5).2.2.1 ∈ wsX1_accepts := by decide +kernel
theorem hvX1_beginsCommand : yX1_beginsCommand.cls = (cg_T 1).1 ∧ yX1_beginsCommand.cls ≠ "java/lang/invoke/MethodHandle" ∧ yX1_beginsCommand.cls ≠ "java/lang/invoke/VarHandle" ∧ (parseMethodDescriptor yX1_beginsCommand.desc).map (fun d => d.parameters.length) = some 1 := by decide +kernel
theorem hvX1_endsCommand : yX1_endsCommand.cls = (cg_T 1).1 ∧ yX1_endsCommand.cls ≠ "java/lang/invoke/MethodHandle" ∧ yX1_endsCommand.cls ≠ "java/lang/invoke/VarHandle" ∧ (parseMethodDescriptor yX1_endsCommand.desc).map (fun d => d.parameters.length) = some 0 := by decide +kernel
theorem hvX1_takesDigit : yX1_takesDigit.cls = (cg_T 1).1 ∧ yX1_takesDigit.cls ≠ "java/lang/invoke/MethodHandle" ∧ yX1_takesDigit.cls ≠ "java/lang/invoke/VarHandle" ∧ (parseMethodDescriptor yX1_takesDigit.desc).map (fun d => d.parameters.length) = some 1 := by decide +kernel
theorem inX1_beginsCommand_X1 : ∀ w ∈ u_ws (cg_T 1).1 (cg_T 1).2.1 (cg_T 1).2.2, w ∈ wsX1_beginsCommand := by decide +kernel
theorem flX1_beginsCommand_27 : Cond.fieldLink RX1 27 ((cg_T 1).2.1 4).1 ((cg_T 1).2.1 4).2.1 ((cg_T 1).2.1 4).2.2.1 ∈ wsX1_beginsCommand := by decide +kernel
theorem flX1_beginsCommand_19 : Cond.fieldLink RX1 19 ((cg_T 1).2.1 2).1 ((cg_T 1).2.1 2).2.1 ((cg_T 1).2.1 2).2.2.1 ∈ wsX1_beginsCommand := by decide +kernel
theorem flX1_beginsCommand_30 : Cond.fieldLink RX1 30 ((cg_T 1).2.1 5).1 ((cg_T 1).2.1 5).2.1 ((cg_T 1).2.1 5).2.2.1 ∈ wsX1_beginsCommand := by decide +kernel
theorem flX1_beginsCommand_34 : Cond.fieldLink RX1 34 ((cg_T 1).2.1 6).1 ((cg_T 1).2.1 6).2.1 ((cg_T 1).2.1 6).2.2.1 ∈ wsX1_beginsCommand := by decide +kernel
theorem flX1_beginsCommand_37 : Cond.fieldLink RX1 37 ((cg_T 1).2.1 7).1 ((cg_T 1).2.1 7).2.1 ((cg_T 1).2.1 7).2.2.1 ∈ wsX1_beginsCommand := by decide +kernel
theorem hsX1_numbersAfter : yX1_numbersAfter.cls ≠ "java/lang/invoke/MethodHandle" ∧ yX1_numbersAfter.cls ≠ "java/lang/invoke/VarHandle" ∧ (parseMethodDescriptor yX1_numbersAfter.desc).map (fun d => d.parameters.length) = some 1 := by decide +kernel
theorem inX1_endsCommand_X1 : ∀ w ∈ u_ws (cg_T 1).1 (cg_T 1).2.1 (cg_T 1).2.2, w ∈ wsX1_endsCommand := by decide +kernel
theorem flX1_endsCommand_34 : Cond.fieldLink RX1 34 ((cg_T 1).2.1 6).1 ((cg_T 1).2.1 6).2.1 ((cg_T 1).2.1 6).2.2.1 ∈ wsX1_endsCommand := by decide +kernel
theorem flX1_endsCommand_19 : Cond.fieldLink RX1 19 ((cg_T 1).2.1 2).1 ((cg_T 1).2.1 2).2.1 ((cg_T 1).2.1 2).2.2.1 ∈ wsX1_endsCommand := by decide +kernel
theorem flX1_endsCommand_27 : Cond.fieldLink RX1 27 ((cg_T 1).2.1 4).1 ((cg_T 1).2.1 4).2.1 ((cg_T 1).2.1 4).2.2.1 ∈ wsX1_endsCommand := by decide +kernel
theorem flX1_endsCommand_30 : Cond.fieldLink RX1 30 ((cg_T 1).2.1 5).1 ((cg_T 1).2.1 5).2.1 ((cg_T 1).2.1 5).2.2.1 ∈ wsX1_endsCommand := by decide +kernel
theorem inX1_takesDigit_X1 : ∀ w ∈ u_ws (cg_T 1).1 (cg_T 1).2.1 (cg_T 1).2.2, w ∈ wsX1_takesDigit := by decide +kernel
theorem flX1_takesDigit_37 : Cond.fieldLink RX1 37 ((cg_T 1).2.1 7).1 ((cg_T 1).2.1 7).2.1 ((cg_T 1).2.1 7).2.2.1 ∈ wsX1_takesDigit := by decide +kernel
theorem flX1_takesDigit_24 : Cond.fieldLink RX1 24 ((cg_T 1).2.1 3).1 ((cg_T 1).2.1 3).2.1 ((cg_T 1).2.1 3).2.2.1 ∈ wsX1_takesDigit := by decide +kernel
theorem flX1_takesDigit_27 : Cond.fieldLink RX1 27 ((cg_T 1).2.1 4).1 ((cg_T 1).2.1 4).2.1 ((cg_T 1).2.1 4).2.2.1 ∈ wsX1_takesDigit := by decide +kernel
theorem flX1_takesDigit_34 : Cond.fieldLink RX1 34 ((cg_T 1).2.1 6).1 ((cg_T 1).2.1 6).2.1 ((cg_T 1).2.1 6).2.2.1 ∈ wsX1_takesDigit := by decide +kernel
theorem flX1_takesDigit_19 : Cond.fieldLink RX1 19 ((cg_T 1).2.1 2).1 ((cg_T 1).2.1 2).2.1 ((cg_T 1).2.1 2).2.2.1 ∈ wsX1_takesDigit := by decide +kernel
theorem inX2_copyFrom_X2 : ∀ w ∈ u_ws (cg_T 2).1 (cg_T 2).2.1 (cg_T 2).2.2, w ∈ wsX2_copyFrom := by decide +kernel
theorem flX2_copyFrom_9 : Cond.fieldLink RX2 9 ((cg_T 2).2.1 0).1 ((cg_T 2).2.1 0).2.1 ((cg_T 2).2.1 0).2.2.1 ∈ wsX2_copyFrom := by decide +kernel
theorem flX2_copyFrom_15 : Cond.fieldLink RX2 15 ((cg_T 2).2.1 1).1 ((cg_T 2).2.1 1).2.1 ((cg_T 2).2.1 1).2.2.1 ∈ wsX2_copyFrom := by decide +kernel
theorem flX2_copyFrom_19 : Cond.fieldLink RX2 19 ((cg_T 2).2.1 2).1 ((cg_T 2).2.1 2).2.1 ((cg_T 2).2.1 2).2.2.1 ∈ wsX2_copyFrom := by decide +kernel
theorem flX2_copyFrom_22 : Cond.fieldLink RX2 22 ((cg_T 2).2.1 3).1 ((cg_T 2).2.1 3).2.1 ((cg_T 2).2.1 3).2.2.1 ∈ wsX2_copyFrom := by decide +kernel
theorem flX2_copyFrom_25 : Cond.fieldLink RX2 25 ((cg_T 2).2.1 4).1 ((cg_T 2).2.1 4).2.1 ((cg_T 2).2.1 4).2.2.1 ∈ wsX2_copyFrom := by decide +kernel
theorem flX2_copyFrom_28 : Cond.fieldLink RX2 28 ((cg_T 2).2.1 5).1 ((cg_T 2).2.1 5).2.1 ((cg_T 2).2.1 5).2.2.1 ∈ wsX2_copyFrom := by decide +kernel
theorem flX2_copyFrom_33 : Cond.fieldLink RX2 33 ((cg_T 2).2.1 6).1 ((cg_T 2).2.1 6).2.1 ((cg_T 2).2.1 6).2.2.1 ∈ wsX2_copyFrom := by decide +kernel
theorem flX2_copyFrom_36 : Cond.fieldLink RX2 36 ((cg_T 2).2.1 7).1 ((cg_T 2).2.1 7).2.1 ((cg_T 2).2.1 7).2.2.1 ∈ wsX2_copyFrom := by decide +kernel
theorem flX2_copyFrom_39 : Cond.fieldLink RX2 39 ((cg_T 2).2.1 8).1 ((cg_T 2).2.1 8).2.1 ((cg_T 2).2.1 8).2.2.1 ∈ wsX2_copyFrom := by decide +kernel
theorem flX2_copyFrom_42 : Cond.fieldLink RX2 42 ((cg_T 2).2.1 9).1 ((cg_T 2).2.1 9).2.1 ((cg_T 2).2.1 9).2.2.1 ∈ wsX2_copyFrom := by decide +kernel
theorem flX2_copyFrom_45 : Cond.fieldLink RX2 45 ((cg_T 2).2.1 10).1 ((cg_T 2).2.1 10).2.1 ((cg_T 2).2.1 10).2.2.1 ∈ wsX2_copyFrom := by decide +kernel
theorem flX2_copyFrom_48 : Cond.fieldLink RX2 48 ((cg_T 2).2.1 11).1 ((cg_T 2).2.1 11).2.1 ((cg_T 2).2.1 11).2.2.1 ∈ wsX2_copyFrom := by decide +kernel
theorem hsX2_copyRow : yX2_copyRow.cls ≠ "java/lang/invoke/MethodHandle" ∧ yX2_copyRow.cls ≠ "java/lang/invoke/VarHandle" ∧ (parseMethodDescriptor yX2_copyRow.desc).map (fun d => d.parameters.length) = some 2 := by decide +kernel
theorem hsX2_copyRows : yX2_copyRows.cls ≠ "java/lang/invoke/MethodHandle" ∧ yX2_copyRows.cls ≠ "java/lang/invoke/VarHandle" ∧ (parseMethodDescriptor yX2_copyRows.desc).map (fun d => d.parameters.length) = some 2 := by decide +kernel
theorem inX2_changeGuarantees_X2 : ∀ w ∈ u_ws (cg_T 2).1 (cg_T 2).2.1 (cg_T 2).2.2, w ∈ wsX2_changeGuarantees := by decide +kernel
theorem flX2_changeGuarantees_39 : Cond.fieldLink RX2 39 ((cg_T 2).2.1 8).1 ((cg_T 2).2.1 8).2.1 ((cg_T 2).2.1 8).2.2.1 ∈ wsX2_changeGuarantees := by decide +kernel
theorem hsX3_isClient : yX3_isClient.cls ≠ "java/lang/invoke/MethodHandle" ∧ yX3_isClient.cls ≠ "java/lang/invoke/VarHandle" ∧ (parseMethodDescriptor yX3_isClient.desc).map (fun d => d.parameters.length) = some 1 := by decide +kernel
theorem neX3_isClient : Cond.methodLinkNest RX2 59 yX3_isClient RX3 ∈ cg_nests := by decide +kernel
theorem isX2_changeGuarantees_X3_isClient : Cond.initialized yX3_isClient.cls ∈ wsX2_changeGuarantees ∧ Cond.static yX3_isClient ∈ wsX2_changeGuarantees := by decide +kernel
theorem hsX3_isBelow : yX3_isBelow.cls ≠ "java/lang/invoke/MethodHandle" ∧ yX3_isBelow.cls ≠ "java/lang/invoke/VarHandle" ∧ (parseMethodDescriptor yX3_isBelow.desc).map (fun d => d.parameters.length) = some 2 := by decide +kernel
theorem neX3_isBelow : Cond.methodLinkNest RX2 63 yX3_isBelow RX3 ∈ cg_nests := by decide +kernel
theorem isX2_changeGuarantees_X3_isBelow : Cond.initialized yX3_isBelow.cls ∈ wsX2_changeGuarantees ∧ Cond.static yX3_isBelow ∈ wsX2_changeGuarantees := by decide +kernel
theorem inX2_clearVectors_X2 : ∀ w ∈ u_ws (cg_T 2).1 (cg_T 2).2.1 (cg_T 2).2.2, w ∈ wsX2_clearVectors := by decide +kernel
theorem flX2_clearVectors_42 : Cond.fieldLink RX2 42 ((cg_T 2).2.1 9).1 ((cg_T 2).2.1 9).2.1 ((cg_T 2).2.1 9).2.2.1 ∈ wsX2_clearVectors := by decide +kernel
theorem flX2_clearVectors_45 : Cond.fieldLink RX2 45 ((cg_T 2).2.1 10).1 ((cg_T 2).2.1 10).2.1 ((cg_T 2).2.1 10).2.2.1 ∈ wsX2_clearVectors := by decide +kernel
theorem isX2_clearVectors_X3_isClient : Cond.initialized yX3_isClient.cls ∈ wsX2_clearVectors ∧ Cond.static yX3_isClient ∈ wsX2_clearVectors := by decide +kernel
theorem inX2_readKey_X2 : ∀ w ∈ u_ws (cg_T 2).1 (cg_T 2).2.1 (cg_T 2).2.2, w ∈ wsX2_readKey := by decide +kernel
theorem flX2_readKey_39 : Cond.fieldLink RX2 39 ((cg_T 2).2.1 8).1 ((cg_T 2).2.1 8).2.1 ((cg_T 2).2.1 8).2.2.1 ∈ wsX2_readKey := by decide +kernel
theorem flX2_readKey_33 : Cond.fieldLink RX2 33 ((cg_T 2).2.1 6).1 ((cg_T 2).2.1 6).2.1 ((cg_T 2).2.1 6).2.2.1 ∈ wsX2_readKey := by decide +kernel
theorem flX2_readKey_42 : Cond.fieldLink RX2 42 ((cg_T 2).2.1 9).1 ((cg_T 2).2.1 9).2.1 ((cg_T 2).2.1 9).2.2.1 ∈ wsX2_readKey := by decide +kernel
theorem isX2_readKey_X3_isClient : Cond.initialized yX3_isClient.cls ∈ wsX2_readKey ∧ Cond.static yX3_isClient ∈ wsX2_readKey := by decide +kernel
theorem hsX3_isReplica : yX3_isReplica.cls ≠ "java/lang/invoke/MethodHandle" ∧ yX3_isReplica.cls ≠ "java/lang/invoke/VarHandle" ∧ (parseMethodDescriptor yX3_isReplica.desc).map (fun d => d.parameters.length) = some 1 := by decide +kernel
theorem neX3_isReplica : Cond.methodLinkNest RX2 67 yX3_isReplica RX3 ∈ cg_nests := by decide +kernel
theorem isX2_readKey_X3_isReplica : Cond.initialized yX3_isReplica.cls ∈ wsX2_readKey ∧ Cond.static yX3_isReplica ∈ wsX2_readKey := by decide +kernel
theorem hsX3_isKey : yX3_isKey.cls ≠ "java/lang/invoke/MethodHandle" ∧ yX3_isKey.cls ≠ "java/lang/invoke/VarHandle" ∧ (parseMethodDescriptor yX3_isKey.desc).map (fun d => d.parameters.length) = some 1 := by decide +kernel
theorem neX3_isKey : Cond.methodLinkNest RX2 70 yX3_isKey RX3 ∈ cg_nests := by decide +kernel
theorem isX2_readKey_X3_isKey : Cond.initialized yX3_isKey.cls ∈ wsX2_readKey ∧ Cond.static yX3_isKey ∈ wsX2_readKey := by decide +kernel
theorem hsX3_only : yX3_only.cls ≠ "java/lang/invoke/MethodHandle" ∧ yX3_only.cls ≠ "java/lang/invoke/VarHandle" ∧ (parseMethodDescriptor yX3_only.desc).map (fun d => d.parameters.length) = some 1 := by decide +kernel
theorem neX3_only : Cond.methodLinkNest RX2 73 yX3_only RX3 ∈ cg_nests := by decide +kernel
theorem isX2_readKey_X3_only : Cond.initialized yX3_only.cls ∈ wsX2_readKey ∧ Cond.static yX3_only ∈ wsX2_readKey := by decide +kernel
theorem hvX2_unmetByRead : yX2_unmetByRead.cls = (cg_T 2).1 ∧ yX2_unmetByRead.cls ≠ "java/lang/invoke/MethodHandle" ∧ yX2_unmetByRead.cls ≠ "java/lang/invoke/VarHandle" ∧ (parseMethodDescriptor yX2_unmetByRead.desc).map (fun d => d.parameters.length) = some 2 := by decide +kernel
theorem hvX2_countBreaches : yX2_countBreaches.cls = (cg_T 2).1 ∧ yX2_countBreaches.cls ≠ "java/lang/invoke/MethodHandle" ∧ yX2_countBreaches.cls ≠ "java/lang/invoke/VarHandle" ∧ (parseMethodDescriptor yX2_countBreaches.desc).map (fun d => d.parameters.length) = some 1 := by decide +kernel
theorem hsX2_merge : yX2_merge.cls ≠ "java/lang/invoke/MethodHandle" ∧ yX2_merge.cls ≠ "java/lang/invoke/VarHandle" ∧ (parseMethodDescriptor yX2_merge.desc).map (fun d => d.parameters.length) = some 2 := by decide +kernel
theorem hvX2_valueAt : yX2_valueAt.cls = (cg_T 2).1 ∧ yX2_valueAt.cls ≠ "java/lang/invoke/MethodHandle" ∧ yX2_valueAt.cls ≠ "java/lang/invoke/VarHandle" ∧ (parseMethodDescriptor yX2_valueAt.desc).map (fun d => d.parameters.length) = some 2 := by decide +kernel
theorem inX2_writeKey_X2 : ∀ w ∈ u_ws (cg_T 2).1 (cg_T 2).2.1 (cg_T 2).2.2, w ∈ wsX2_writeKey := by decide +kernel
theorem flX2_writeKey_39 : Cond.fieldLink RX2 39 ((cg_T 2).2.1 8).1 ((cg_T 2).2.1 8).2.1 ((cg_T 2).2.1 8).2.2.1 ∈ wsX2_writeKey := by decide +kernel
theorem flX2_writeKey_9 : Cond.fieldLink RX2 9 ((cg_T 2).2.1 0).1 ((cg_T 2).2.1 0).2.1 ((cg_T 2).2.1 0).2.2.1 ∈ wsX2_writeKey := by decide +kernel
theorem flX2_writeKey_36 : Cond.fieldLink RX2 36 ((cg_T 2).2.1 7).1 ((cg_T 2).2.1 7).2.1 ((cg_T 2).2.1 7).2.2.1 ∈ wsX2_writeKey := by decide +kernel
theorem flX2_writeKey_33 : Cond.fieldLink RX2 33 ((cg_T 2).2.1 6).1 ((cg_T 2).2.1 6).2.1 ((cg_T 2).2.1 6).2.2.1 ∈ wsX2_writeKey := by decide +kernel
theorem flX2_writeKey_45 : Cond.fieldLink RX2 45 ((cg_T 2).2.1 10).1 ((cg_T 2).2.1 10).2.1 ((cg_T 2).2.1 10).2.2.1 ∈ wsX2_writeKey := by decide +kernel
theorem flX2_writeKey_15 : Cond.fieldLink RX2 15 ((cg_T 2).2.1 1).1 ((cg_T 2).2.1 1).2.1 ((cg_T 2).2.1 1).2.2.1 ∈ wsX2_writeKey := by decide +kernel
theorem flX2_writeKey_19 : Cond.fieldLink RX2 19 ((cg_T 2).2.1 2).1 ((cg_T 2).2.1 2).2.1 ((cg_T 2).2.1 2).2.2.1 ∈ wsX2_writeKey := by decide +kernel
theorem flX2_writeKey_22 : Cond.fieldLink RX2 22 ((cg_T 2).2.1 3).1 ((cg_T 2).2.1 3).2.1 ((cg_T 2).2.1 3).2.2.1 ∈ wsX2_writeKey := by decide +kernel
theorem flX2_writeKey_25 : Cond.fieldLink RX2 25 ((cg_T 2).2.1 4).1 ((cg_T 2).2.1 4).2.1 ((cg_T 2).2.1 4).2.2.1 ∈ wsX2_writeKey := by decide +kernel
theorem flX2_writeKey_28 : Cond.fieldLink RX2 28 ((cg_T 2).2.1 5).1 ((cg_T 2).2.1 5).2.1 ((cg_T 2).2.1 5).2.2.1 ∈ wsX2_writeKey := by decide +kernel
theorem isX2_writeKey_X3_isClient : Cond.initialized yX3_isClient.cls ∈ wsX2_writeKey ∧ Cond.static yX3_isClient ∈ wsX2_writeKey := by decide +kernel
theorem isX2_writeKey_X3_isReplica : Cond.initialized yX3_isReplica.cls ∈ wsX2_writeKey ∧ Cond.static yX3_isReplica ∈ wsX2_writeKey := by decide +kernel
theorem isX2_writeKey_X3_isKey : Cond.initialized yX3_isKey.cls ∈ wsX2_writeKey ∧ Cond.static yX3_isKey ∈ wsX2_writeKey := by decide +kernel
theorem isX2_writeKey_X3_isBelow : Cond.initialized yX3_isBelow.cls ∈ wsX2_writeKey ∧ Cond.static yX3_isBelow ∈ wsX2_writeKey := by decide +kernel
theorem hvX2_unmetByWrite : yX2_unmetByWrite.cls = (cg_T 2).1 ∧ yX2_unmetByWrite.cls ≠ "java/lang/invoke/MethodHandle" ∧ yX2_unmetByWrite.cls ≠ "java/lang/invoke/VarHandle" ∧ (parseMethodDescriptor yX2_unmetByWrite.desc).map (fun d => d.parameters.length) = some 2 := by decide +kernel
theorem inX2_synchronize_X2 : ∀ w ∈ u_ws (cg_T 2).1 (cg_T 2).2.1 (cg_T 2).2.2, w ∈ wsX2_synchronize := by decide +kernel
theorem flX2_synchronize_9 : Cond.fieldLink RX2 9 ((cg_T 2).2.1 0).1 ((cg_T 2).2.1 0).2.1 ((cg_T 2).2.1 0).2.2.1 ∈ wsX2_synchronize := by decide +kernel
theorem flX2_synchronize_36 : Cond.fieldLink RX2 36 ((cg_T 2).2.1 7).1 ((cg_T 2).2.1 7).2.1 ((cg_T 2).2.1 7).2.2.1 ∈ wsX2_synchronize := by decide +kernel
theorem flX2_synchronize_28 : Cond.fieldLink RX2 28 ((cg_T 2).2.1 5).1 ((cg_T 2).2.1 5).2.1 ((cg_T 2).2.1 5).2.2.1 ∈ wsX2_synchronize := by decide +kernel
theorem flX2_synchronize_33 : Cond.fieldLink RX2 33 ((cg_T 2).2.1 6).1 ((cg_T 2).2.1 6).2.1 ((cg_T 2).2.1 6).2.2.1 ∈ wsX2_synchronize := by decide +kernel
theorem isX2_synchronize_X3_isReplica : Cond.initialized yX3_isReplica.cls ∈ wsX2_synchronize ∧ Cond.static yX3_isReplica ∈ wsX2_synchronize := by decide +kernel
theorem hvX2_knows : yX2_knows.cls = (cg_T 2).1 ∧ yX2_knows.cls ≠ "java/lang/invoke/MethodHandle" ∧ yX2_knows.cls ≠ "java/lang/invoke/VarHandle" ∧ (parseMethodDescriptor yX2_knows.desc).map (fun d => d.parameters.length) = some 2 := by decide +kernel
theorem mmX2_synchronize_max : Cond.methodLink RX2 97 Lib.Math.max.name ∈ wsX2_synchronize ∧ Cond.static Lib.Math.max.name ∈ wsX2_synchronize ∧ Cond.initialized "java/lang/Math" ∈ wsX2_synchronize ∧ Cond.code Lib.Math.max.name Lib.Math.max.code 2 (some .int) ∈ wsX2_synchronize := by decide +kernel
theorem inX2_isReadAllowed_X2 : ∀ w ∈ u_ws (cg_T 2).1 (cg_T 2).2.1 (cg_T 2).2.2, w ∈ wsX2_isReadAllowed := by decide +kernel
theorem flX2_isReadAllowed_39 : Cond.fieldLink RX2 39 ((cg_T 2).2.1 8).1 ((cg_T 2).2.1 8).2.1 ((cg_T 2).2.1 8).2.2.1 ∈ wsX2_isReadAllowed := by decide +kernel
theorem inX2_isWriteAllowed_X2 : ∀ w ∈ u_ws (cg_T 2).1 (cg_T 2).2.1 (cg_T 2).2.2, w ∈ wsX2_isWriteAllowed := by decide +kernel
theorem flX2_isWriteAllowed_39 : Cond.fieldLink RX2 39 ((cg_T 2).2.1 8).1 ((cg_T 2).2.1 8).2.1 ((cg_T 2).2.1 8).2.2.1 ∈ wsX2_isWriteAllowed := by decide +kernel
theorem inX2_unmetByRead_X2 : ∀ w ∈ u_ws (cg_T 2).1 (cg_T 2).2.1 (cg_T 2).2.2, w ∈ wsX2_unmetByRead := by decide +kernel
theorem flX2_unmetByRead_45 : Cond.fieldLink RX2 45 ((cg_T 2).2.1 10).1 ((cg_T 2).2.1 10).2.1 ((cg_T 2).2.1 10).2.2.1 ∈ wsX2_unmetByRead := by decide +kernel
theorem flX2_unmetByRead_42 : Cond.fieldLink RX2 42 ((cg_T 2).2.1 9).1 ((cg_T 2).2.1 9).2.1 ((cg_T 2).2.1 9).2.2.1 ∈ wsX2_unmetByRead := by decide +kernel
theorem hvX2_covers : yX2_covers.cls = (cg_T 2).1 ∧ yX2_covers.cls ≠ "java/lang/invoke/MethodHandle" ∧ yX2_covers.cls ≠ "java/lang/invoke/VarHandle" ∧ (parseMethodDescriptor yX2_covers.desc).map (fun d => d.parameters.length) = some 2 := by decide +kernel
theorem inX2_unmetByWrite_X2 : ∀ w ∈ u_ws (cg_T 2).1 (cg_T 2).2.1 (cg_T 2).2.2, w ∈ wsX2_unmetByWrite := by decide +kernel
theorem flX2_unmetByWrite_42 : Cond.fieldLink RX2 42 ((cg_T 2).2.1 9).1 ((cg_T 2).2.1 9).2.1 ((cg_T 2).2.1 9).2.2.1 ∈ wsX2_unmetByWrite := by decide +kernel
theorem flX2_unmetByWrite_45 : Cond.fieldLink RX2 45 ((cg_T 2).2.1 10).1 ((cg_T 2).2.1 10).2.1 ((cg_T 2).2.1 10).2.2.1 ∈ wsX2_unmetByWrite := by decide +kernel
theorem isX2_unmetByWrite_X3_only : Cond.initialized yX3_only.cls ∈ wsX2_unmetByWrite ∧ Cond.static yX3_only ∈ wsX2_unmetByWrite := by decide +kernel
theorem hvX2_greatestCount : yX2_greatestCount.cls = (cg_T 2).1 ∧ yX2_greatestCount.cls ≠ "java/lang/invoke/MethodHandle" ∧ yX2_greatestCount.cls ≠ "java/lang/invoke/VarHandle" ∧ (parseMethodDescriptor yX2_greatestCount.desc).map (fun d => d.parameters.length) = some 2 := by decide +kernel
theorem inX2_greatestCount_X2 : ∀ w ∈ u_ws (cg_T 2).1 (cg_T 2).2.1 (cg_T 2).2.2, w ∈ wsX2_greatestCount := by decide +kernel
theorem flX2_greatestCount_33 : Cond.fieldLink RX2 33 ((cg_T 2).2.1 6).1 ((cg_T 2).2.1 6).2.1 ((cg_T 2).2.1 6).2.2.1 ∈ wsX2_greatestCount := by decide +kernel
theorem hsX3_contains : yX3_contains.cls ≠ "java/lang/invoke/MethodHandle" ∧ yX3_contains.cls ≠ "java/lang/invoke/VarHandle" ∧ (parseMethodDescriptor yX3_contains.desc).map (fun d => d.parameters.length) = some 2 := by decide +kernel
theorem neX3_contains : Cond.methodLinkNest RX2 109 yX3_contains RX3 ∈ cg_nests := by decide +kernel
theorem isX2_greatestCount_X3_contains : Cond.initialized yX3_contains.cls ∈ wsX2_greatestCount ∧ Cond.static yX3_contains ∈ wsX2_greatestCount := by decide +kernel
theorem mmX2_greatestCount_max : Cond.methodLink RX2 97 Lib.Math.max.name ∈ wsX2_greatestCount ∧ Cond.static Lib.Math.max.name ∈ wsX2_greatestCount ∧ Cond.initialized "java/lang/Math" ∈ wsX2_greatestCount ∧ Cond.code Lib.Math.max.name Lib.Math.max.code 2 (some .int) ∈ wsX2_greatestCount := by decide +kernel
theorem inX2_valueAt_X2 : ∀ w ∈ u_ws (cg_T 2).1 (cg_T 2).2.1 (cg_T 2).2.2, w ∈ wsX2_valueAt := by decide +kernel
theorem flX2_valueAt_9 : Cond.fieldLink RX2 9 ((cg_T 2).2.1 0).1 ((cg_T 2).2.1 0).2.1 ((cg_T 2).2.1 0).2.2.1 ∈ wsX2_valueAt := by decide +kernel
theorem flX2_valueAt_22 : Cond.fieldLink RX2 22 ((cg_T 2).2.1 3).1 ((cg_T 2).2.1 3).2.1 ((cg_T 2).2.1 3).2.2.1 ∈ wsX2_valueAt := by decide +kernel
theorem flX2_valueAt_25 : Cond.fieldLink RX2 25 ((cg_T 2).2.1 4).1 ((cg_T 2).2.1 4).2.1 ((cg_T 2).2.1 4).2.2.1 ∈ wsX2_valueAt := by decide +kernel
theorem hvX2_isLater : yX2_isLater.cls = (cg_T 2).1 ∧ yX2_isLater.cls ≠ "java/lang/invoke/MethodHandle" ∧ yX2_isLater.cls ≠ "java/lang/invoke/VarHandle" ∧ (parseMethodDescriptor yX2_isLater.desc).map (fun d => d.parameters.length) = some 2 := by decide +kernel
theorem inX2_knows_X2 : ∀ w ∈ u_ws (cg_T 2).1 (cg_T 2).2.1 (cg_T 2).2.2, w ∈ wsX2_knows := by decide +kernel
theorem flX2_knows_19 : Cond.fieldLink RX2 19 ((cg_T 2).2.1 2).1 ((cg_T 2).2.1 2).2.1 ((cg_T 2).2.1 2).2.2.1 ∈ wsX2_knows := by decide +kernel
theorem flX2_knows_33 : Cond.fieldLink RX2 33 ((cg_T 2).2.1 6).1 ((cg_T 2).2.1 6).2.1 ((cg_T 2).2.1 6).2.2.1 ∈ wsX2_knows := by decide +kernel
theorem flX2_knows_15 : Cond.fieldLink RX2 15 ((cg_T 2).2.1 1).1 ((cg_T 2).2.1 1).2.1 ((cg_T 2).2.1 1).2.2.1 ∈ wsX2_knows := by decide +kernel
theorem inX2_isLater_X2 : ∀ w ∈ u_ws (cg_T 2).1 (cg_T 2).2.1 (cg_T 2).2.2, w ∈ wsX2_isLater := by decide +kernel
theorem flX2_isLater_28 : Cond.fieldLink RX2 28 ((cg_T 2).2.1 5).1 ((cg_T 2).2.1 5).2.1 ((cg_T 2).2.1 5).2.2.1 ∈ wsX2_isLater := by decide +kernel
theorem flX2_isLater_15 : Cond.fieldLink RX2 15 ((cg_T 2).2.1 1).1 ((cg_T 2).2.1 1).2.1 ((cg_T 2).2.1 1).2.2.1 ∈ wsX2_isLater := by decide +kernel
theorem inX2_countBreaches_X2 : ∀ w ∈ u_ws (cg_T 2).1 (cg_T 2).2.1 (cg_T 2).2.2, w ∈ wsX2_countBreaches := by decide +kernel
theorem flX2_countBreaches_48 : Cond.fieldLink RX2 48 ((cg_T 2).2.1 11).1 ((cg_T 2).2.1 11).2.1 ((cg_T 2).2.1 11).2.2.1 ∈ wsX2_countBreaches := by decide +kernel
theorem isX2_countBreaches_X3_contains : Cond.initialized yX3_contains.cls ∈ wsX2_countBreaches ∧ Cond.static yX3_contains ∈ wsX2_countBreaches := by decide +kernel
theorem inX2_mixInto_X2 : ∀ w ∈ u_ws (cg_T 2).1 (cg_T 2).2.1 (cg_T 2).2.2, w ∈ wsX2_mixInto := by decide +kernel
theorem flX2_mixInto_9 : Cond.fieldLink RX2 9 ((cg_T 2).2.1 0).1 ((cg_T 2).2.1 0).2.1 ((cg_T 2).2.1 0).2.2.1 ∈ wsX2_mixInto := by decide +kernel
theorem flX2_mixInto_33 : Cond.fieldLink RX2 33 ((cg_T 2).2.1 6).1 ((cg_T 2).2.1 6).2.1 ((cg_T 2).2.1 6).2.2.1 ∈ wsX2_mixInto := by decide +kernel
theorem flX2_mixInto_36 : Cond.fieldLink RX2 36 ((cg_T 2).2.1 7).1 ((cg_T 2).2.1 7).2.1 ((cg_T 2).2.1 7).2.2.1 ∈ wsX2_mixInto := by decide +kernel
theorem flX2_mixInto_39 : Cond.fieldLink RX2 39 ((cg_T 2).2.1 8).1 ((cg_T 2).2.1 8).2.1 ((cg_T 2).2.1 8).2.2.1 ∈ wsX2_mixInto := by decide +kernel
theorem flX2_mixInto_42 : Cond.fieldLink RX2 42 ((cg_T 2).2.1 9).1 ((cg_T 2).2.1 9).2.1 ((cg_T 2).2.1 9).2.2.1 ∈ wsX2_mixInto := by decide +kernel
theorem flX2_mixInto_45 : Cond.fieldLink RX2 45 ((cg_T 2).2.1 10).1 ((cg_T 2).2.1 10).2.1 ((cg_T 2).2.1 10).2.2.1 ∈ wsX2_mixInto := by decide +kernel
theorem flX2_mixInto_48 : Cond.fieldLink RX2 48 ((cg_T 2).2.1 11).1 ((cg_T 2).2.1 11).2.1 ((cg_T 2).2.1 11).2.2.1 ∈ wsX2_mixInto := by decide +kernel
theorem hsX3_mix : yX3_mix.cls ≠ "java/lang/invoke/MethodHandle" ∧ yX3_mix.cls ≠ "java/lang/invoke/VarHandle" ∧ (parseMethodDescriptor yX3_mix.desc).map (fun d => d.parameters.length) = some 2 := by decide +kernel
theorem neX3_mix : Cond.methodLinkNest RX2 115 yX3_mix RX3 ∈ cg_nests := by decide +kernel
theorem isX2_mixInto_X3_mix : Cond.initialized yX3_mix.cls ∈ wsX2_mixInto ∧ Cond.static yX3_mix ∈ wsX2_mixInto := by decide +kernel
theorem hsX3_mixAll : yX3_mixAll.cls ≠ "java/lang/invoke/MethodHandle" ∧ yX3_mixAll.cls ≠ "java/lang/invoke/VarHandle" ∧ (parseMethodDescriptor yX3_mixAll.desc).map (fun d => d.parameters.length) = some 2 := by decide +kernel
theorem neX3_mixAll : Cond.methodLinkNest RX2 119 yX3_mixAll RX3 ∈ cg_nests := by decide +kernel
theorem isX2_mixInto_X3_mixAll : Cond.initialized yX3_mixAll.cls ∈ wsX2_mixInto ∧ Cond.static yX3_mixAll ∈ wsX2_mixInto := by decide +kernel
theorem mmX2_merge_max : Cond.methodLink RX2 97 Lib.Math.max.name ∈ wsX2_merge ∧ Cond.static Lib.Math.max.name ∈ wsX2_merge ∧ Cond.initialized "java/lang/Math" ∈ wsX2_merge ∧ Cond.code Lib.Math.max.name Lib.Math.max.code 2 (some .int) ∈ wsX2_merge := by decide +kernel
theorem mmX2_copyRow_min : Cond.methodLink RX2 123 Lib.Math.min.name ∈ wsX2_copyRow ∧ Cond.static Lib.Math.min.name ∈ wsX2_copyRow ∧ Cond.initialized "java/lang/Math" ∈ wsX2_copyRow ∧ Cond.code Lib.Math.min.name Lib.Math.min.code 2 (some .int) ∈ wsX2_copyRow := by decide +kernel
theorem acX2_copyRow : Cond.methodLink RX2 126 arraycopyName ∈ wsX2_copyRow ∧ Cond.native arraycopyName ∈ wsX2_copyRow ∧ Cond.static arraycopyName ∈ wsX2_copyRow ∧ Cond.initialized "java/lang/System" ∈ wsX2_copyRow := by decide +kernel
theorem inX3_setGuarantees_X3 : ∀ w ∈ u_ws (cg_T 3).1 (cg_T 3).2.1 (cg_T 3).2.2, w ∈ wsX3_setGuarantees := by decide +kernel
theorem flX3_setGuarantees_19 : Cond.fieldLink RX3 19 ((cg_T 3).2.1 1).1 ((cg_T 3).2.1 1).2.1 ((cg_T 3).2.1 1).2.2.1 ∈ wsX3_setGuarantees := by decide +kernel
theorem flX3_setGuarantees_12 : Cond.fieldLink RX3 12 ((cg_T 3).2.1 0).1 ((cg_T 3).2.1 0).2.1 ((cg_T 3).2.1 0).2.2.1 ∈ wsX3_setGuarantees := by decide +kernel
theorem hvX0_prepare : yX0_prepare.cls = (cg_T 0).1 ∧ yX0_prepare.cls ≠ "java/lang/invoke/MethodHandle" ∧ yX0_prepare.cls ≠ "java/lang/invoke/VarHandle" ∧ (parseMethodDescriptor yX0_prepare.desc).map (fun d => d.parameters.length) = some 1 := by decide +kernel
theorem hvX2_changeGuarantees : yX2_changeGuarantees.cls = (cg_T 2).1 ∧ yX2_changeGuarantees.cls ≠ "java/lang/invoke/MethodHandle" ∧ yX2_changeGuarantees.cls ≠ "java/lang/invoke/VarHandle" ∧ (parseMethodDescriptor yX2_changeGuarantees.desc).map (fun d => d.parameters.length) = some 2 := by decide +kernel
theorem hvX3_endUndoable : yX3_endUndoable.cls = (cg_T 3).1 ∧ yX3_endUndoable.cls ≠ "java/lang/invoke/MethodHandle" ∧ yX3_endUndoable.cls ≠ "java/lang/invoke/VarHandle" ∧ (parseMethodDescriptor yX3_endUndoable.desc).map (fun d => d.parameters.length) = some 1 := by decide +kernel
theorem inX3_forget_X3 : ∀ w ∈ u_ws (cg_T 3).1 (cg_T 3).2.1 (cg_T 3).2.2, w ∈ wsX3_forget := by decide +kernel
theorem flX3_forget_19 : Cond.fieldLink RX3 19 ((cg_T 3).2.1 1).1 ((cg_T 3).2.1 1).2.1 ((cg_T 3).2.1 1).2.2.1 ∈ wsX3_forget := by decide +kernel
theorem flX3_forget_12 : Cond.fieldLink RX3 12 ((cg_T 3).2.1 0).1 ((cg_T 3).2.1 0).2.1 ((cg_T 3).2.1 0).2.2.1 ∈ wsX3_forget := by decide +kernel
theorem hvX2_clearVectors : yX2_clearVectors.cls = (cg_T 2).1 ∧ yX2_clearVectors.cls ≠ "java/lang/invoke/MethodHandle" ∧ yX2_clearVectors.cls ≠ "java/lang/invoke/VarHandle" ∧ (parseMethodDescriptor yX2_clearVectors.desc).map (fun d => d.parameters.length) = some 1 := by decide +kernel
theorem inX3_readCount_X3 : ∀ w ∈ u_ws (cg_T 3).1 (cg_T 3).2.1 (cg_T 3).2.2, w ∈ wsX3_readCount := by decide +kernel
theorem flX3_readCount_12 : Cond.fieldLink RX3 12 ((cg_T 3).2.1 0).1 ((cg_T 3).2.1 0).2.1 ((cg_T 3).2.1 0).2.2.1 ∈ wsX3_readCount := by decide +kernel
theorem inX3_readCount_X2 : ∀ w ∈ u_ws (cg_T 2).1 (cg_T 2).2.1 (cg_T 2).2.2, w ∈ wsX3_readCount := by decide +kernel
theorem flX3_readCount_59 : Cond.fieldLink RX3 59 ((cg_T 2).2.1 9).1 ((cg_T 2).2.1 9).2.1 ((cg_T 2).2.1 9).2.2.1 ∈ wsX3_readCount := by decide +kernel
theorem hvX3_counted : yX3_counted.cls = (cg_T 3).1 ∧ yX3_counted.cls ≠ "java/lang/invoke/MethodHandle" ∧ yX3_counted.cls ≠ "java/lang/invoke/VarHandle" ∧ (parseMethodDescriptor yX3_counted.desc).map (fun d => d.parameters.length) = some 1 := by decide +kernel
theorem inX3_writeCount_X3 : ∀ w ∈ u_ws (cg_T 3).1 (cg_T 3).2.1 (cg_T 3).2.2, w ∈ wsX3_writeCount := by decide +kernel
theorem flX3_writeCount_12 : Cond.fieldLink RX3 12 ((cg_T 3).2.1 0).1 ((cg_T 3).2.1 0).2.1 ((cg_T 3).2.1 0).2.2.1 ∈ wsX3_writeCount := by decide +kernel
theorem inX3_writeCount_X2 : ∀ w ∈ u_ws (cg_T 2).1 (cg_T 2).2.1 (cg_T 2).2.2, w ∈ wsX3_writeCount := by decide +kernel
theorem flX3_writeCount_63 : Cond.fieldLink RX3 63 ((cg_T 2).2.1 10).1 ((cg_T 2).2.1 10).2.1 ((cg_T 2).2.1 10).2.2.1 ∈ wsX3_writeCount := by decide +kernel
theorem inX3_read_X3 : ∀ w ∈ u_ws (cg_T 3).1 (cg_T 3).2.1 (cg_T 3).2.2, w ∈ wsX3_read := by decide +kernel
theorem flX3_read_19 : Cond.fieldLink RX3 19 ((cg_T 3).2.1 1).1 ((cg_T 3).2.1 1).2.1 ((cg_T 3).2.1 1).2.2.1 ∈ wsX3_read := by decide +kernel
theorem flX3_read_12 : Cond.fieldLink RX3 12 ((cg_T 3).2.1 0).1 ((cg_T 3).2.1 0).2.1 ((cg_T 3).2.1 0).2.2.1 ∈ wsX3_read := by decide +kernel
theorem hvX2_readKey : yX2_readKey.cls = (cg_T 2).1 ∧ yX2_readKey.cls ≠ "java/lang/invoke/MethodHandle" ∧ yX2_readKey.cls ≠ "java/lang/invoke/VarHandle" ∧ (parseMethodDescriptor yX2_readKey.desc).map (fun d => d.parameters.length) = some 3 := by decide +kernel
theorem inX3_write_X3 : ∀ w ∈ u_ws (cg_T 3).1 (cg_T 3).2.1 (cg_T 3).2.2, w ∈ wsX3_write := by decide +kernel
theorem flX3_write_19 : Cond.fieldLink RX3 19 ((cg_T 3).2.1 1).1 ((cg_T 3).2.1 1).2.1 ((cg_T 3).2.1 1).2.2.1 ∈ wsX3_write := by decide +kernel
theorem flX3_write_12 : Cond.fieldLink RX3 12 ((cg_T 3).2.1 0).1 ((cg_T 3).2.1 0).2.1 ((cg_T 3).2.1 0).2.2.1 ∈ wsX3_write := by decide +kernel
theorem hvX2_writeKey : yX2_writeKey.cls = (cg_T 2).1 ∧ yX2_writeKey.cls ≠ "java/lang/invoke/MethodHandle" ∧ yX2_writeKey.cls ≠ "java/lang/invoke/VarHandle" ∧ (parseMethodDescriptor yX2_writeKey.desc).map (fun d => d.parameters.length) = some 4 := by decide +kernel
theorem inX3_sync_X3 : ∀ w ∈ u_ws (cg_T 3).1 (cg_T 3).2.1 (cg_T 3).2.2, w ∈ wsX3_sync := by decide +kernel
theorem flX3_sync_19 : Cond.fieldLink RX3 19 ((cg_T 3).2.1 1).1 ((cg_T 3).2.1 1).2.1 ((cg_T 3).2.1 1).2.2.1 ∈ wsX3_sync := by decide +kernel
theorem flX3_sync_12 : Cond.fieldLink RX3 12 ((cg_T 3).2.1 0).1 ((cg_T 3).2.1 0).2.1 ((cg_T 3).2.1 0).2.2.1 ∈ wsX3_sync := by decide +kernel
theorem hvX2_synchronize : yX2_synchronize.cls = (cg_T 2).1 ∧ yX2_synchronize.cls ≠ "java/lang/invoke/MethodHandle" ∧ yX2_synchronize.cls ≠ "java/lang/invoke/VarHandle" ∧ (parseMethodDescriptor yX2_synchronize.desc).map (fun d => d.parameters.length) = some 2 := by decide +kernel
theorem inX3_readBreaches_X3 : ∀ w ∈ u_ws (cg_T 3).1 (cg_T 3).2.1 (cg_T 3).2.2, w ∈ wsX3_readBreaches := by decide +kernel
theorem flX3_readBreaches_12 : Cond.fieldLink RX3 12 ((cg_T 3).2.1 0).1 ((cg_T 3).2.1 0).2.1 ((cg_T 3).2.1 0).2.2.1 ∈ wsX3_readBreaches := by decide +kernel
theorem inX3_writeBreaches_X3 : ∀ w ∈ u_ws (cg_T 3).1 (cg_T 3).2.1 (cg_T 3).2.2, w ∈ wsX3_writeBreaches := by decide +kernel
theorem flX3_writeBreaches_12 : Cond.fieldLink RX3 12 ((cg_T 3).2.1 0).1 ((cg_T 3).2.1 0).2.1 ((cg_T 3).2.1 0).2.2.1 ∈ wsX3_writeBreaches := by decide +kernel
theorem inX3_readableReplica_X3 : ∀ w ∈ u_ws (cg_T 3).1 (cg_T 3).2.1 (cg_T 3).2.2, w ∈ wsX3_readableReplica := by decide +kernel
theorem flX3_readableReplica_12 : Cond.fieldLink RX3 12 ((cg_T 3).2.1 0).1 ((cg_T 3).2.1 0).2.1 ((cg_T 3).2.1 0).2.2.1 ∈ wsX3_readableReplica := by decide +kernel
theorem hvX2_isReadAllowed : yX2_isReadAllowed.cls = (cg_T 2).1 ∧ yX2_isReadAllowed.cls ≠ "java/lang/invoke/MethodHandle" ∧ yX2_isReadAllowed.cls ≠ "java/lang/invoke/VarHandle" ∧ (parseMethodDescriptor yX2_isReadAllowed.desc).map (fun d => d.parameters.length) = some 2 := by decide +kernel
theorem inX3_writableReplica_X3 : ∀ w ∈ u_ws (cg_T 3).1 (cg_T 3).2.1 (cg_T 3).2.2, w ∈ wsX3_writableReplica := by decide +kernel
theorem flX3_writableReplica_12 : Cond.fieldLink RX3 12 ((cg_T 3).2.1 0).1 ((cg_T 3).2.1 0).2.1 ((cg_T 3).2.1 0).2.2.1 ∈ wsX3_writableReplica := by decide +kernel
theorem hvX2_isWriteAllowed : yX2_isWriteAllowed.cls = (cg_T 2).1 ∧ yX2_isWriteAllowed.cls ≠ "java/lang/invoke/MethodHandle" ∧ yX2_isWriteAllowed.cls ≠ "java/lang/invoke/VarHandle" ∧ (parseMethodDescriptor yX2_isWriteAllowed.desc).map (fun d => d.parameters.length) = some 2 := by decide +kernel
theorem inX3_syncsForRead_X3 : ∀ w ∈ u_ws (cg_T 3).1 (cg_T 3).2.1 (cg_T 3).2.2, w ∈ wsX3_syncsForRead := by decide +kernel
theorem flX3_syncsForRead_12 : Cond.fieldLink RX3 12 ((cg_T 3).2.1 0).1 ((cg_T 3).2.1 0).2.1 ((cg_T 3).2.1 0).2.2.1 ∈ wsX3_syncsForRead := by decide +kernel
theorem inX3_count_X3 : ∀ w ∈ u_ws (cg_T 3).1 (cg_T 3).2.1 (cg_T 3).2.2, w ∈ wsX3_count := by decide +kernel
theorem flX3_count_12 : Cond.fieldLink RX3 12 ((cg_T 3).2.1 0).1 ((cg_T 3).2.1 0).2.1 ((cg_T 3).2.1 0).2.2.1 ∈ wsX3_count := by decide +kernel
theorem inX3_count_X2 : ∀ w ∈ u_ws (cg_T 2).1 (cg_T 2).2.1 (cg_T 2).2.2, w ∈ wsX3_count := by decide +kernel
theorem flX3_count_96 : Cond.fieldLink RX3 96 ((cg_T 2).2.1 6).1 ((cg_T 2).2.1 6).2.1 ((cg_T 2).2.1 6).2.2.1 ∈ wsX3_count := by decide +kernel
theorem inX3_clock_X3 : ∀ w ∈ u_ws (cg_T 3).1 (cg_T 3).2.1 (cg_T 3).2.2, w ∈ wsX3_clock := by decide +kernel
theorem flX3_clock_12 : Cond.fieldLink RX3 12 ((cg_T 3).2.1 0).1 ((cg_T 3).2.1 0).2.1 ((cg_T 3).2.1 0).2.2.1 ∈ wsX3_clock := by decide +kernel
theorem inX3_clock_X2 : ∀ w ∈ u_ws (cg_T 2).1 (cg_T 2).2.1 (cg_T 2).2.2, w ∈ wsX3_clock := by decide +kernel
theorem flX3_clock_99 : Cond.fieldLink RX3 99 ((cg_T 2).2.1 7).1 ((cg_T 2).2.1 7).2.1 ((cg_T 2).2.1 7).2.2.1 ∈ wsX3_clock := by decide +kernel
theorem inX3_peek_X3 : ∀ w ∈ u_ws (cg_T 3).1 (cg_T 3).2.1 (cg_T 3).2.2, w ∈ wsX3_peek := by decide +kernel
theorem flX3_peek_12 : Cond.fieldLink RX3 12 ((cg_T 3).2.1 0).1 ((cg_T 3).2.1 0).2.1 ((cg_T 3).2.1 0).2.2.1 ∈ wsX3_peek := by decide +kernel
theorem inX3_compare_X3 : ∀ w ∈ u_ws (cg_T 3).1 (cg_T 3).2.1 (cg_T 3).2.2, w ∈ wsX3_compare := by decide +kernel
theorem flX3_compare_12 : Cond.fieldLink RX3 12 ((cg_T 3).2.1 0).1 ((cg_T 3).2.1 0).2.1 ((cg_T 3).2.1 0).2.2.1 ∈ wsX3_compare := by decide +kernel
theorem inX3_compare_X2 : ∀ w ∈ u_ws (cg_T 2).1 (cg_T 2).2.1 (cg_T 2).2.2, w ∈ wsX3_compare := by decide +kernel
theorem flX3_compare_96 : Cond.fieldLink RX3 96 ((cg_T 2).2.1 6).1 ((cg_T 2).2.1 6).2.1 ((cg_T 2).2.1 6).2.2.1 ∈ wsX3_compare := by decide +kernel
theorem inX3_breaches_X3 : ∀ w ∈ u_ws (cg_T 3).1 (cg_T 3).2.1 (cg_T 3).2.2, w ∈ wsX3_breaches := by decide +kernel
theorem flX3_breaches_12 : Cond.fieldLink RX3 12 ((cg_T 3).2.1 0).1 ((cg_T 3).2.1 0).2.1 ((cg_T 3).2.1 0).2.2.1 ∈ wsX3_breaches := by decide +kernel
theorem inX3_breaches_X2 : ∀ w ∈ u_ws (cg_T 2).1 (cg_T 2).2.1 (cg_T 2).2.2, w ∈ wsX3_breaches := by decide +kernel
theorem flX3_breaches_115 : Cond.fieldLink RX3 115 ((cg_T 2).2.1 11).1 ((cg_T 2).2.1 11).2.1 ((cg_T 2).2.1 11).2.2.1 ∈ wsX3_breaches := by decide +kernel
theorem inX3_append_X3 : ∀ w ∈ u_ws (cg_T 3).1 (cg_T 3).2.1 (cg_T 3).2.2, w ∈ wsX3_append := by decide +kernel
theorem flX3_append_26 : Cond.fieldLink RX3 26 ((cg_T 3).2.1 2).1 ((cg_T 3).2.1 2).2.1 ((cg_T 3).2.1 2).2.2.1 ∈ wsX3_append := by decide +kernel
theorem hvX1_add : yX1_add.cls = (cg_T 1).1 ∧ yX1_add.cls ≠ "java/lang/invoke/MethodHandle" ∧ yX1_add.cls ≠ "java/lang/invoke/VarHandle" ∧ (parseMethodDescriptor yX1_add.desc).map (fun d => d.parameters.length) = some 1 := by decide +kernel
theorem inX3_clearText_X3 : ∀ w ∈ u_ws (cg_T 3).1 (cg_T 3).2.1 (cg_T 3).2.2, w ∈ wsX3_clearText := by decide +kernel
theorem flX3_clearText_26 : Cond.fieldLink RX3 26 ((cg_T 3).2.1 2).1 ((cg_T 3).2.1 2).2.1 ((cg_T 3).2.1 2).2.2.1 ∈ wsX3_clearText := by decide +kernel
theorem inX3_clearText_X1 : ∀ w ∈ u_ws (cg_T 1).1 (cg_T 1).2.1 (cg_T 1).2.2, w ∈ wsX3_clearText := by decide +kernel
theorem flX3_clearText_121 : Cond.fieldLink RX3 121 ((cg_T 1).2.1 1).1 ((cg_T 1).2.1 1).2.1 ((cg_T 1).2.1 1).2.2.1 ∈ wsX3_clearText := by decide +kernel
theorem inX3_execute_X3 : ∀ w ∈ u_ws (cg_T 3).1 (cg_T 3).2.1 (cg_T 3).2.2, w ∈ wsX3_execute := by decide +kernel
theorem flX3_execute_26 : Cond.fieldLink RX3 26 ((cg_T 3).2.1 2).1 ((cg_T 3).2.1 2).2.1 ((cg_T 3).2.1 2).2.2.1 ∈ wsX3_execute := by decide +kernel
theorem flX3_execute_19 : Cond.fieldLink RX3 19 ((cg_T 3).2.1 1).1 ((cg_T 3).2.1 1).2.1 ((cg_T 3).2.1 1).2.2.1 ∈ wsX3_execute := by decide +kernel
theorem flX3_execute_12 : Cond.fieldLink RX3 12 ((cg_T 3).2.1 0).1 ((cg_T 3).2.1 0).2.1 ((cg_T 3).2.1 0).2.2.1 ∈ wsX3_execute := by decide +kernel
theorem inX3_execute_X1 : ∀ w ∈ u_ws (cg_T 1).1 (cg_T 1).2.1 (cg_T 1).2.2, w ∈ wsX3_execute := by decide +kernel
theorem flX3_execute_129 : Cond.fieldLink RX3 129 ((cg_T 1).2.1 4).1 ((cg_T 1).2.1 4).2.1 ((cg_T 1).2.1 4).2.2.1 ∈ wsX3_execute := by decide +kernel
theorem hvX1_parse : yX1_parse.cls = (cg_T 1).1 ∧ yX1_parse.cls ≠ "java/lang/invoke/MethodHandle" ∧ yX1_parse.cls ≠ "java/lang/invoke/VarHandle" ∧ (parseMethodDescriptor yX1_parse.desc).map (fun d => d.parameters.length) = some 0 := by decide +kernel
theorem hvX3_runCommand : yX3_runCommand.cls = (cg_T 3).1 ∧ yX3_runCommand.cls ≠ "java/lang/invoke/MethodHandle" ∧ yX3_runCommand.cls ≠ "java/lang/invoke/VarHandle" ∧ (parseMethodDescriptor yX3_runCommand.desc).map (fun d => d.parameters.length) = some 1 := by decide +kernel
theorem hvX0_restorePrepared : yX0_restorePrepared.cls = (cg_T 0).1 ∧ yX0_restorePrepared.cls ≠ "java/lang/invoke/MethodHandle" ∧ yX0_restorePrepared.cls ≠ "java/lang/invoke/VarHandle" ∧ (parseMethodDescriptor yX0_restorePrepared.desc).map (fun d => d.parameters.length) = some 1 := by decide +kernel
theorem hvX0_keepPrepared : yX0_keepPrepared.cls = (cg_T 0).1 ∧ yX0_keepPrepared.cls ≠ "java/lang/invoke/MethodHandle" ∧ yX0_keepPrepared.cls ≠ "java/lang/invoke/VarHandle" ∧ (parseMethodDescriptor yX0_keepPrepared.desc).map (fun d => d.parameters.length) = some 0 := by decide +kernel
theorem inX3_undo_X3 : ∀ w ∈ u_ws (cg_T 3).1 (cg_T 3).2.1 (cg_T 3).2.2, w ∈ wsX3_undo := by decide +kernel
theorem flX3_undo_19 : Cond.fieldLink RX3 19 ((cg_T 3).2.1 1).1 ((cg_T 3).2.1 1).2.1 ((cg_T 3).2.1 1).2.2.1 ∈ wsX3_undo := by decide +kernel
theorem flX3_undo_12 : Cond.fieldLink RX3 12 ((cg_T 3).2.1 0).1 ((cg_T 3).2.1 0).2.1 ((cg_T 3).2.1 0).2.2.1 ∈ wsX3_undo := by decide +kernel
theorem inX3_undo_X0 : ∀ w ∈ u_ws (cg_T 0).1 (cg_T 0).2.1 (cg_T 0).2.2, w ∈ wsX3_undo := by decide +kernel
theorem flX3_undo_145 : Cond.fieldLink RX3 145 ((cg_T 0).2.1 2).1 ((cg_T 0).2.1 2).2.1 ((cg_T 0).2.1 2).2.2.1 ∈ wsX3_undo := by decide +kernel
theorem hvX0_restoreNewest : yX0_restoreNewest.cls = (cg_T 0).1 ∧ yX0_restoreNewest.cls ≠ "java/lang/invoke/MethodHandle" ∧ yX0_restoreNewest.cls ≠ "java/lang/invoke/VarHandle" ∧ (parseMethodDescriptor yX0_restoreNewest.desc).map (fun d => d.parameters.length) = some 1 := by decide +kernel
theorem inX3_errorCount_X3 : ∀ w ∈ u_ws (cg_T 3).1 (cg_T 3).2.1 (cg_T 3).2.2, w ∈ wsX3_errorCount := by decide +kernel
theorem flX3_errorCount_30 : Cond.fieldLink RX3 30 ((cg_T 3).2.1 3).1 ((cg_T 3).2.1 3).2.1 ((cg_T 3).2.1 3).2.2.1 ∈ wsX3_errorCount := by decide +kernel
theorem hsX3_isErrorCode : yX3_isErrorCode.cls ≠ "java/lang/invoke/MethodHandle" ∧ yX3_isErrorCode.cls ≠ "java/lang/invoke/VarHandle" ∧ (parseMethodDescriptor yX3_isErrorCode.desc).map (fun d => d.parameters.length) = some 1 := by decide +kernel
theorem inX3_writes_X3 : ∀ w ∈ u_ws (cg_T 3).1 (cg_T 3).2.1 (cg_T 3).2.2, w ∈ wsX3_writes := by decide +kernel
theorem flX3_writes_12 : Cond.fieldLink RX3 12 ((cg_T 3).2.1 0).1 ((cg_T 3).2.1 0).2.1 ((cg_T 3).2.1 0).2.2.1 ∈ wsX3_writes := by decide +kernel
theorem inX3_writes_X2 : ∀ w ∈ u_ws (cg_T 2).1 (cg_T 2).2.1 (cg_T 2).2.2, w ∈ wsX3_writes := by decide +kernel
theorem flX3_writes_151 : Cond.fieldLink RX3 151 ((cg_T 2).2.1 0).1 ((cg_T 2).2.1 0).2.1 ((cg_T 2).2.1 0).2.2.1 ∈ wsX3_writes := by decide +kernel
theorem klX3_digest_154 : Jvm.Cond.constantLong RX3 154 (2647) ∈ wsX3_digest := by decide +kernel
theorem inX3_digest_X3 : ∀ w ∈ u_ws (cg_T 3).1 (cg_T 3).2.1 (cg_T 3).2.2, w ∈ wsX3_digest := by decide +kernel
theorem flX3_digest_30 : Cond.fieldLink RX3 30 ((cg_T 3).2.1 3).1 ((cg_T 3).2.1 3).2.1 ((cg_T 3).2.1 3).2.2.1 ∈ wsX3_digest := by decide +kernel
theorem flX3_digest_12 : Cond.fieldLink RX3 12 ((cg_T 3).2.1 0).1 ((cg_T 3).2.1 0).2.1 ((cg_T 3).2.1 0).2.2.1 ∈ wsX3_digest := by decide +kernel
theorem flX3_digest_26 : Cond.fieldLink RX3 26 ((cg_T 3).2.1 2).1 ((cg_T 3).2.1 2).2.1 ((cg_T 3).2.1 2).2.2.1 ∈ wsX3_digest := by decide +kernel
theorem inX3_digest_X1 : ∀ w ∈ u_ws (cg_T 1).1 (cg_T 1).2.1 (cg_T 1).2.2, w ∈ wsX3_digest := by decide +kernel
theorem flX3_digest_121 : Cond.fieldLink RX3 121 ((cg_T 1).2.1 1).1 ((cg_T 1).2.1 1).2.1 ((cg_T 1).2.1 1).2.2.1 ∈ wsX3_digest := by decide +kernel
theorem flX3_digest_19 : Cond.fieldLink RX3 19 ((cg_T 3).2.1 1).1 ((cg_T 3).2.1 1).2.1 ((cg_T 3).2.1 1).2.2.1 ∈ wsX3_digest := by decide +kernel
theorem inX3_digest_X0 : ∀ w ∈ u_ws (cg_T 0).1 (cg_T 0).2.1 (cg_T 0).2.2, w ∈ wsX3_digest := by decide +kernel
theorem flX3_digest_145 : Cond.fieldLink RX3 145 ((cg_T 0).2.1 2).1 ((cg_T 0).2.1 2).2.1 ((cg_T 0).2.1 2).2.2.1 ∈ wsX3_digest := by decide +kernel
theorem hvX2_mixInto : yX2_mixInto.cls = (cg_T 2).1 ∧ yX2_mixInto.cls ≠ "java/lang/invoke/MethodHandle" ∧ yX2_mixInto.cls ≠ "java/lang/invoke/VarHandle" ∧ (parseMethodDescriptor yX2_mixInto.desc).map (fun d => d.parameters.length) = some 1 := by decide +kernel
theorem inX3_runCommand_X3 : ∀ w ∈ u_ws (cg_T 3).1 (cg_T 3).2.1 (cg_T 3).2.2, w ∈ wsX3_runCommand := by decide +kernel
theorem flX3_runCommand_26 : Cond.fieldLink RX3 26 ((cg_T 3).2.1 2).1 ((cg_T 3).2.1 2).2.1 ((cg_T 3).2.1 2).2.2.1 ∈ wsX3_runCommand := by decide +kernel
theorem inX3_runCommand_X1 : ∀ w ∈ u_ws (cg_T 1).1 (cg_T 1).2.1 (cg_T 1).2.2, w ∈ wsX3_runCommand := by decide +kernel
theorem flX3_runCommand_168 : Cond.fieldLink RX3 168 ((cg_T 1).2.1 3).1 ((cg_T 1).2.1 3).2.1 ((cg_T 1).2.1 3).2.2.1 ∈ wsX3_runCommand := by decide +kernel
theorem flX3_runCommand_171 : Cond.fieldLink RX3 171 ((cg_T 1).2.1 2).1 ((cg_T 1).2.1 2).2.1 ((cg_T 1).2.1 2).2.2.1 ∈ wsX3_runCommand := by decide +kernel
theorem flX3_runCommand_12 : Cond.fieldLink RX3 12 ((cg_T 3).2.1 0).1 ((cg_T 3).2.1 0).2.1 ((cg_T 3).2.1 0).2.2.1 ∈ wsX3_runCommand := by decide +kernel
theorem inX3_endUndoable_X3 : ∀ w ∈ u_ws (cg_T 3).1 (cg_T 3).2.1 (cg_T 3).2.2, w ∈ wsX3_endUndoable := by decide +kernel
theorem flX3_endUndoable_19 : Cond.fieldLink RX3 19 ((cg_T 3).2.1 1).1 ((cg_T 3).2.1 1).2.1 ((cg_T 3).2.1 1).2.2.1 ∈ wsX3_endUndoable := by decide +kernel
theorem inX3_counted_X3 : ∀ w ∈ u_ws (cg_T 3).1 (cg_T 3).2.1 (cg_T 3).2.2, w ∈ wsX3_counted := by decide +kernel
theorem flX3_counted_30 : Cond.fieldLink RX3 30 ((cg_T 3).2.1 3).1 ((cg_T 3).2.1 3).2.1 ((cg_T 3).2.1 3).2.2.1 ∈ wsX3_counted := by decide +kernel
theorem klX3_mix_174 : Jvm.Cond.constantLong RX3 174 (31) ∈ wsX3_mix := by decide +kernel
theorem inX4_error_X4 : ∀ w ∈ u_ws (cg_T 4).1 (cg_T 4).2.1 (cg_T 4).2.2, w ∈ wsX4_error := by decide +kernel
theorem flX4_error_19 : Cond.fieldLink RX4 19 ((cg_T 4).2.1 4).1 ((cg_T 4).2.1 4).2.1 ((cg_T 4).2.1 4).2.2.1 ∈ wsX4_error := by decide +kernel
theorem hvX4_error : yX4_error.cls = (cg_T 4).1 ∧ yX4_error.cls ≠ "java/lang/invoke/MethodHandle" ∧ yX4_error.cls ≠ "java/lang/invoke/VarHandle" ∧ (parseMethodDescriptor yX4_error.desc).map (fun d => d.parameters.length) = some 1 := by decide +kernel
theorem hvX4_savesAside : yX4_savesAside.cls = (cg_T 4).1 ∧ yX4_savesAside.cls ≠ "java/lang/invoke/MethodHandle" ∧ yX4_savesAside.cls ≠ "java/lang/invoke/VarHandle" ∧ (parseMethodDescriptor yX4_savesAside.desc).map (fun d => d.parameters.length) = some 0 := by decide +kernel
theorem inX4_putsAside_X4 : ∀ w ∈ u_ws (cg_T 4).1 (cg_T 4).2.1 (cg_T 4).2.2, w ∈ wsX4_putsAside := by decide +kernel
theorem flX4_putsAside_16 : Cond.fieldLink RX4 16 ((cg_T 4).2.1 3).1 ((cg_T 4).2.1 3).2.1 ((cg_T 4).2.1 3).2.2.1 ∈ wsX4_putsAside := by decide +kernel
theorem flX4_putsAside_7 : Cond.fieldLink RX4 7 ((cg_T 4).2.1 0).1 ((cg_T 4).2.1 0).2.1 ((cg_T 4).2.1 0).2.2.1 ∈ wsX4_putsAside := by decide +kernel
theorem inX4_savesAside_X4 : ∀ w ∈ u_ws (cg_T 4).1 (cg_T 4).2.1 (cg_T 4).2.2, w ∈ wsX4_savesAside := by decide +kernel
theorem flX4_savesAside_35 : Cond.fieldLink RX4 35 ((cg_T 4).2.1 2).1 ((cg_T 4).2.1 2).2.1 ((cg_T 4).2.1 2).2.2.1 ∈ wsX4_savesAside := by decide +kernel
theorem flX4_savesAside_13 : Cond.fieldLink RX4 13 ((cg_T 4).2.1 1).1 ((cg_T 4).2.1 1).2.1 ((cg_T 4).2.1 1).2.2.1 ∈ wsX4_savesAside := by decide +kernel
theorem flX4_savesAside_16 : Cond.fieldLink RX4 16 ((cg_T 4).2.1 3).1 ((cg_T 4).2.1 3).2.1 ((cg_T 4).2.1 3).2.2.1 ∈ wsX4_savesAside := by decide +kernel
theorem klX4_isClient_39 : Jvm.Cond.constantLong RX4 39 (3) ∈ wsX4_isClient := by decide +kernel
theorem hsX4_in : yX4_in.cls ≠ "java/lang/invoke/MethodHandle" ∧ yX4_in.cls ≠ "java/lang/invoke/VarHandle" ∧ (parseMethodDescriptor yX4_in.desc).map (fun d => d.parameters.length) = some 3 := by decide +kernel
theorem klX4_isReplica_45 : Jvm.Cond.constantLong RX4 45 (2) ∈ wsX4_isReplica := by decide +kernel
theorem klX4_isKey_39 : Jvm.Cond.constantLong RX4 39 (3) ∈ wsX4_isKey := by decide +kernel
theorem inX4_guarantees_X4 : ∀ w ∈ u_ws (cg_T 4).1 (cg_T 4).2.1 (cg_T 4).2.2, w ∈ wsX4_guarantees := by decide +kernel
theorem flX4_guarantees_7 : Cond.fieldLink RX4 7 ((cg_T 4).2.1 0).1 ((cg_T 4).2.1 0).2.1 ((cg_T 4).2.1 0).2.2.1 ∈ wsX4_guarantees := by decide +kernel
theorem klX4_doesSet_51 : Jvm.Cond.constantLong RX4 51 (15) ∈ wsX4_doesSet := by decide +kernel
theorem inX4_doesSet_X4 : ∀ w ∈ u_ws (cg_T 4).1 (cg_T 4).2.1 (cg_T 4).2.2, w ∈ wsX4_doesSet := by decide +kernel
theorem flX4_doesSet_7 : Cond.fieldLink RX4 7 ((cg_T 4).2.1 0).1 ((cg_T 4).2.1 0).2.1 ((cg_T 4).2.1 0).2.2.1 ∈ wsX4_doesSet := by decide +kernel
theorem hsX4_isClient : yX4_isClient.cls ≠ "java/lang/invoke/MethodHandle" ∧ yX4_isClient.cls ≠ "java/lang/invoke/VarHandle" ∧ (parseMethodDescriptor yX4_isClient.desc).map (fun d => d.parameters.length) = some 1 := by decide +kernel
theorem hvX4_guarantees : yX4_guarantees.cls = (cg_T 4).1 ∧ yX4_guarantees.cls ≠ "java/lang/invoke/MethodHandle" ∧ yX4_guarantees.cls ≠ "java/lang/invoke/VarHandle" ∧ (parseMethodDescriptor yX4_guarantees.desc).map (fun d => d.parameters.length) = some 1 := by decide +kernel
theorem hvX4_putsAside : yX4_putsAside.cls = (cg_T 4).1 ∧ yX4_putsAside.cls ≠ "java/lang/invoke/MethodHandle" ∧ yX4_putsAside.cls ≠ "java/lang/invoke/VarHandle" ∧ (parseMethodDescriptor yX4_putsAside.desc).map (fun d => d.parameters.length) = some 0 := by decide +kernel
theorem hvX4_doesSet : yX4_doesSet.cls = (cg_T 4).1 ∧ yX4_doesSet.cls ≠ "java/lang/invoke/MethodHandle" ∧ yX4_doesSet.cls ≠ "java/lang/invoke/VarHandle" ∧ (parseMethodDescriptor yX4_doesSet.desc).map (fun d => d.parameters.length) = some 2 := by decide +kernel
theorem hvX4_answered : yX4_answered.cls = (cg_T 4).1 ∧ yX4_answered.cls ≠ "java/lang/invoke/MethodHandle" ∧ yX4_answered.cls ≠ "java/lang/invoke/VarHandle" ∧ (parseMethodDescriptor yX4_answered.desc).map (fun d => d.parameters.length) = some 1 := by decide +kernel
theorem inX4_doesForget_X4 : ∀ w ∈ u_ws (cg_T 4).1 (cg_T 4).2.1 (cg_T 4).2.2, w ∈ wsX4_doesForget := by decide +kernel
theorem flX4_doesForget_7 : Cond.fieldLink RX4 7 ((cg_T 4).2.1 0).1 ((cg_T 4).2.1 0).2.1 ((cg_T 4).2.1 0).2.2.1 ∈ wsX4_doesForget := by decide +kernel
theorem hvX4_doesForget : yX4_doesForget.cls = (cg_T 4).1 ∧ yX4_doesForget.cls ≠ "java/lang/invoke/MethodHandle" ∧ yX4_doesForget.cls ≠ "java/lang/invoke/VarHandle" ∧ (parseMethodDescriptor yX4_doesForget.desc).map (fun d => d.parameters.length) = some 1 := by decide +kernel
theorem inX4_readCount_X4 : ∀ w ∈ u_ws (cg_T 4).1 (cg_T 4).2.1 (cg_T 4).2.2, w ∈ wsX4_readCount := by decide +kernel
theorem flX4_readCount_7 : Cond.fieldLink RX4 7 ((cg_T 4).2.1 0).1 ((cg_T 4).2.1 0).2.1 ((cg_T 4).2.1 0).2.2.1 ∈ wsX4_readCount := by decide +kernel
theorem hsX4_isReplica : yX4_isReplica.cls ≠ "java/lang/invoke/MethodHandle" ∧ yX4_isReplica.cls ≠ "java/lang/invoke/VarHandle" ∧ (parseMethodDescriptor yX4_isReplica.desc).map (fun d => d.parameters.length) = some 1 := by decide +kernel
theorem inX4_writeCount_X4 : ∀ w ∈ u_ws (cg_T 4).1 (cg_T 4).2.1 (cg_T 4).2.2, w ∈ wsX4_writeCount := by decide +kernel
theorem flX4_writeCount_7 : Cond.fieldLink RX4 7 ((cg_T 4).2.1 0).1 ((cg_T 4).2.1 0).2.1 ((cg_T 4).2.1 0).2.2.1 ∈ wsX4_writeCount := by decide +kernel
theorem inX4_covers_X4 : ∀ w ∈ u_ws (cg_T 4).1 (cg_T 4).2.1 (cg_T 4).2.2, w ∈ wsX4_covers := by decide +kernel
theorem flX4_covers_7 : Cond.fieldLink RX4 7 ((cg_T 4).2.1 0).1 ((cg_T 4).2.1 0).2.1 ((cg_T 4).2.1 0).2.2.1 ∈ wsX4_covers := by decide +kernel
theorem hvX4_covers : yX4_covers.cls = (cg_T 4).1 ∧ yX4_covers.cls ≠ "java/lang/invoke/MethodHandle" ∧ yX4_covers.cls ≠ "java/lang/invoke/VarHandle" ∧ (parseMethodDescriptor yX4_covers.desc).map (fun d => d.parameters.length) = some 2 := by decide +kernel
theorem inX4_countsBreaches_X4 : ∀ w ∈ u_ws (cg_T 4).1 (cg_T 4).2.1 (cg_T 4).2.2, w ∈ wsX4_countsBreaches := by decide +kernel
theorem flX4_countsBreaches_7 : Cond.fieldLink RX4 7 ((cg_T 4).2.1 0).1 ((cg_T 4).2.1 0).2.1 ((cg_T 4).2.1 0).2.2.1 ∈ wsX4_countsBreaches := by decide +kernel
theorem inX4_isLater_X4 : ∀ w ∈ u_ws (cg_T 4).1 (cg_T 4).2.1 (cg_T 4).2.2, w ∈ wsX4_isLater := by decide +kernel
theorem flX4_isLater_7 : Cond.fieldLink RX4 7 ((cg_T 4).2.1 0).1 ((cg_T 4).2.1 0).2.1 ((cg_T 4).2.1 0).2.2.1 ∈ wsX4_isLater := by decide +kernel
theorem inX4_valueAt_X4 : ∀ w ∈ u_ws (cg_T 4).1 (cg_T 4).2.1 (cg_T 4).2.2, w ∈ wsX4_valueAt := by decide +kernel
theorem flX4_valueAt_7 : Cond.fieldLink RX4 7 ((cg_T 4).2.1 0).1 ((cg_T 4).2.1 0).2.1 ((cg_T 4).2.1 0).2.2.1 ∈ wsX4_valueAt := by decide +kernel
theorem hvX4_isLater : yX4_isLater.cls = (cg_T 4).1 ∧ yX4_isLater.cls ≠ "java/lang/invoke/MethodHandle" ∧ yX4_isLater.cls ≠ "java/lang/invoke/VarHandle" ∧ (parseMethodDescriptor yX4_isLater.desc).map (fun d => d.parameters.length) = some 2 := by decide +kernel
theorem inX4_doesRead_X4 : ∀ w ∈ u_ws (cg_T 4).1 (cg_T 4).2.1 (cg_T 4).2.2, w ∈ wsX4_doesRead := by decide +kernel
theorem flX4_doesRead_7 : Cond.fieldLink RX4 7 ((cg_T 4).2.1 0).1 ((cg_T 4).2.1 0).2.1 ((cg_T 4).2.1 0).2.2.1 ∈ wsX4_doesRead := by decide +kernel
theorem hsX4_isKey : yX4_isKey.cls ≠ "java/lang/invoke/MethodHandle" ∧ yX4_isKey.cls ≠ "java/lang/invoke/VarHandle" ∧ (parseMethodDescriptor yX4_isKey.desc).map (fun d => d.parameters.length) = some 1 := by decide +kernel
theorem hvX4_breachesOfRead : yX4_breachesOfRead.cls = (cg_T 4).1 ∧ yX4_breachesOfRead.cls ≠ "java/lang/invoke/MethodHandle" ∧ yX4_breachesOfRead.cls ≠ "java/lang/invoke/VarHandle" ∧ (parseMethodDescriptor yX4_breachesOfRead.desc).map (fun d => d.parameters.length) = some 2 := by decide +kernel
theorem hvX4_countsBreaches : yX4_countsBreaches.cls = (cg_T 4).1 ∧ yX4_countsBreaches.cls ≠ "java/lang/invoke/MethodHandle" ∧ yX4_countsBreaches.cls ≠ "java/lang/invoke/VarHandle" ∧ (parseMethodDescriptor yX4_countsBreaches.desc).map (fun d => d.parameters.length) = some 1 := by decide +kernel
theorem hvX4_valueAt : yX4_valueAt.cls = (cg_T 4).1 ∧ yX4_valueAt.cls ≠ "java/lang/invoke/MethodHandle" ∧ yX4_valueAt.cls ≠ "java/lang/invoke/VarHandle" ∧ (parseMethodDescriptor yX4_valueAt.desc).map (fun d => d.parameters.length) = some 2 := by decide +kernel
theorem hvX4_doesRead : yX4_doesRead.cls = (cg_T 4).1 ∧ yX4_doesRead.cls ≠ "java/lang/invoke/MethodHandle" ∧ yX4_doesRead.cls ≠ "java/lang/invoke/VarHandle" ∧ (parseMethodDescriptor yX4_doesRead.desc).map (fun d => d.parameters.length) = some 3 := by decide +kernel
theorem klX4_doesWrite_96 : Jvm.Cond.constantLong RX4 96 (99) ∈ wsX4_doesWrite := by decide +kernel
theorem inX4_doesWrite_X4 : ∀ w ∈ u_ws (cg_T 4).1 (cg_T 4).2.1 (cg_T 4).2.2, w ∈ wsX4_doesWrite := by decide +kernel
theorem flX4_doesWrite_7 : Cond.fieldLink RX4 7 ((cg_T 4).2.1 0).1 ((cg_T 4).2.1 0).2.1 ((cg_T 4).2.1 0).2.2.1 ∈ wsX4_doesWrite := by decide +kernel
theorem hvX4_breachesOfWrite : yX4_breachesOfWrite.cls = (cg_T 4).1 ∧ yX4_breachesOfWrite.cls ≠ "java/lang/invoke/MethodHandle" ∧ yX4_breachesOfWrite.cls ≠ "java/lang/invoke/VarHandle" ∧ (parseMethodDescriptor yX4_breachesOfWrite.desc).map (fun d => d.parameters.length) = some 2 := by decide +kernel
theorem hvX4_doesWrite : yX4_doesWrite.cls = (cg_T 4).1 ∧ yX4_doesWrite.cls ≠ "java/lang/invoke/MethodHandle" ∧ yX4_doesWrite.cls ≠ "java/lang/invoke/VarHandle" ∧ (parseMethodDescriptor yX4_doesWrite.desc).map (fun d => d.parameters.length) = some 4 := by decide +kernel
theorem inX4_doesSync_X4 : ∀ w ∈ u_ws (cg_T 4).1 (cg_T 4).2.1 (cg_T 4).2.2, w ∈ wsX4_doesSync := by decide +kernel
theorem flX4_doesSync_7 : Cond.fieldLink RX4 7 ((cg_T 4).2.1 0).1 ((cg_T 4).2.1 0).2.1 ((cg_T 4).2.1 0).2.2.1 ∈ wsX4_doesSync := by decide +kernel
theorem hvX4_doesSync : yX4_doesSync.cls = (cg_T 4).1 ∧ yX4_doesSync.cls ≠ "java/lang/invoke/MethodHandle" ∧ yX4_doesSync.cls ≠ "java/lang/invoke/VarHandle" ∧ (parseMethodDescriptor yX4_doesSync.desc).map (fun d => d.parameters.length) = some 2 := by decide +kernel
theorem inX4_isCoveredBy_X4 : ∀ w ∈ u_ws (cg_T 4).1 (cg_T 4).2.1 (cg_T 4).2.2, w ∈ wsX4_isCoveredBy := by decide +kernel
theorem flX4_isCoveredBy_7 : Cond.fieldLink RX4 7 ((cg_T 4).2.1 0).1 ((cg_T 4).2.1 0).2.1 ((cg_T 4).2.1 0).2.2.1 ∈ wsX4_isCoveredBy := by decide +kernel
theorem hvX4_isCoveredBy : yX4_isCoveredBy.cls = (cg_T 4).1 ∧ yX4_isCoveredBy.cls ≠ "java/lang/invoke/MethodHandle" ∧ yX4_isCoveredBy.cls ≠ "java/lang/invoke/VarHandle" ∧ (parseMethodDescriptor yX4_isCoveredBy.desc).map (fun d => d.parameters.length) = some 2 := by decide +kernel
theorem hsX4_bits : yX4_bits.cls ≠ "java/lang/invoke/MethodHandle" ∧ yX4_bits.cls ≠ "java/lang/invoke/VarHandle" ∧ (parseMethodDescriptor yX4_bits.desc).map (fun d => d.parameters.length) = some 1 := by decide +kernel
theorem hvX4_isReadBy : yX4_isReadBy.cls = (cg_T 4).1 ∧ yX4_isReadBy.cls ≠ "java/lang/invoke/MethodHandle" ∧ yX4_isReadBy.cls ≠ "java/lang/invoke/VarHandle" ∧ (parseMethodDescriptor yX4_isReadBy.desc).map (fun d => d.parameters.length) = some 2 := by decide +kernel
theorem inX4_count_X4 : ∀ w ∈ u_ws (cg_T 4).1 (cg_T 4).2.1 (cg_T 4).2.2, w ∈ wsX4_count := by decide +kernel
theorem flX4_count_7 : Cond.fieldLink RX4 7 ((cg_T 4).2.1 0).1 ((cg_T 4).2.1 0).2.1 ((cg_T 4).2.1 0).2.2.1 ∈ wsX4_count := by decide +kernel
theorem inX4_clock_X4 : ∀ w ∈ u_ws (cg_T 4).1 (cg_T 4).2.1 (cg_T 4).2.2, w ∈ wsX4_clock := by decide +kernel
theorem flX4_clock_7 : Cond.fieldLink RX4 7 ((cg_T 4).2.1 0).1 ((cg_T 4).2.1 0).2.1 ((cg_T 4).2.1 0).2.2.1 ∈ wsX4_clock := by decide +kernel
theorem klX4_breaches_39 : Jvm.Cond.constantLong RX4 39 (3) ∈ wsX4_breaches := by decide +kernel
theorem inX4_breaches_X4 : ∀ w ∈ u_ws (cg_T 4).1 (cg_T 4).2.1 (cg_T 4).2.2, w ∈ wsX4_breaches := by decide +kernel
theorem flX4_breaches_7 : Cond.fieldLink RX4 7 ((cg_T 4).2.1 0).1 ((cg_T 4).2.1 0).2.1 ((cg_T 4).2.1 0).2.2.1 ∈ wsX4_breaches := by decide +kernel
theorem klX4_append_117 : Jvm.Cond.constantLong RX4 117 (127) ∈ wsX4_append := by decide +kernel
theorem inX4_append_X4 : ∀ w ∈ u_ws (cg_T 4).1 (cg_T 4).2.1 (cg_T 4).2.2, w ∈ wsX4_append := by decide +kernel
theorem flX4_append_119 : Cond.fieldLink RX4 119 ((cg_T 4).2.1 6).1 ((cg_T 4).2.1 6).2.1 ((cg_T 4).2.1 6).2.2.1 ∈ wsX4_append := by decide +kernel
theorem flX4_append_22 : Cond.fieldLink RX4 22 ((cg_T 4).2.1 5).1 ((cg_T 4).2.1 5).2.1 ((cg_T 4).2.1 5).2.2.1 ∈ wsX4_append := by decide +kernel
theorem inX4_clearText_X4 : ∀ w ∈ u_ws (cg_T 4).1 (cg_T 4).2.1 (cg_T 4).2.2, w ∈ wsX4_clearText := by decide +kernel
theorem flX4_clearText_119 : Cond.fieldLink RX4 119 ((cg_T 4).2.1 6).1 ((cg_T 4).2.1 6).2.1 ((cg_T 4).2.1 6).2.2.1 ∈ wsX4_clearText := by decide +kernel
theorem inX4_here_X4 : ∀ w ∈ u_ws (cg_T 4).1 (cg_T 4).2.1 (cg_T 4).2.2, w ∈ wsX4_here := by decide +kernel
theorem flX4_here_122 : Cond.fieldLink RX4 122 ((cg_T 4).2.1 7).1 ((cg_T 4).2.1 7).2.1 ((cg_T 4).2.1 7).2.2.1 ∈ wsX4_here := by decide +kernel
theorem flX4_here_119 : Cond.fieldLink RX4 119 ((cg_T 4).2.1 6).1 ((cg_T 4).2.1 6).2.1 ((cg_T 4).2.1 6).2.2.1 ∈ wsX4_here := by decide +kernel
theorem flX4_here_22 : Cond.fieldLink RX4 22 ((cg_T 4).2.1 5).1 ((cg_T 4).2.1 5).2.1 ((cg_T 4).2.1 5).2.2.1 ∈ wsX4_here := by decide +kernel
theorem inX4_isDigit_X4 : ∀ w ∈ u_ws (cg_T 4).1 (cg_T 4).2.1 (cg_T 4).2.2, w ∈ wsX4_isDigit := by decide +kernel
theorem flX4_isDigit_122 : Cond.fieldLink RX4 122 ((cg_T 4).2.1 7).1 ((cg_T 4).2.1 7).2.1 ((cg_T 4).2.1 7).2.2.1 ∈ wsX4_isDigit := by decide +kernel
theorem flX4_isDigit_119 : Cond.fieldLink RX4 119 ((cg_T 4).2.1 6).1 ((cg_T 4).2.1 6).2.1 ((cg_T 4).2.1 6).2.2.1 ∈ wsX4_isDigit := by decide +kernel
theorem flX4_isDigit_22 : Cond.fieldLink RX4 22 ((cg_T 4).2.1 5).1 ((cg_T 4).2.1 5).2.1 ((cg_T 4).2.1 5).2.2.1 ∈ wsX4_isDigit := by decide +kernel
theorem klX4_isDigit_125 : Jvm.Cond.constantLong RX4 125 (48) ∈ wsX4_isDigit := by decide +kernel
theorem klX4_isDigit_127 : Jvm.Cond.constantLong RX4 127 (57) ∈ wsX4_isDigit := by decide +kernel
theorem klX4_takesNumber_125 : Jvm.Cond.constantLong RX4 125 (48) ∈ wsX4_takesNumber := by decide +kernel
theorem klX4_takesNumber_127 : Jvm.Cond.constantLong RX4 127 (57) ∈ wsX4_takesNumber := by decide +kernel
theorem inX4_takesNumber_X4 : ∀ w ∈ u_ws (cg_T 4).1 (cg_T 4).2.1 (cg_T 4).2.2, w ∈ wsX4_takesNumber := by decide +kernel
theorem flX4_takesNumber_25 : Cond.fieldLink RX4 25 ((cg_T 4).2.1 8).1 ((cg_T 4).2.1 8).2.1 ((cg_T 4).2.1 8).2.2.1 ∈ wsX4_takesNumber := by decide +kernel
theorem flX4_takesNumber_22 : Cond.fieldLink RX4 22 ((cg_T 4).2.1 5).1 ((cg_T 4).2.1 5).2.1 ((cg_T 4).2.1 5).2.2.1 ∈ wsX4_takesNumber := by decide +kernel
theorem flX4_takesNumber_122 : Cond.fieldLink RX4 122 ((cg_T 4).2.1 7).1 ((cg_T 4).2.1 7).2.1 ((cg_T 4).2.1 7).2.2.1 ∈ wsX4_takesNumber := by decide +kernel
theorem hvX4_here : yX4_here.cls = (cg_T 4).1 ∧ yX4_here.cls ≠ "java/lang/invoke/MethodHandle" ∧ yX4_here.cls ≠ "java/lang/invoke/VarHandle" ∧ (parseMethodDescriptor yX4_here.desc).map (fun d => d.parameters.length) = some 0 := by decide +kernel
theorem hvX4_isDigit : yX4_isDigit.cls = (cg_T 4).1 ∧ yX4_isDigit.cls ≠ "java/lang/invoke/MethodHandle" ∧ yX4_isDigit.cls ≠ "java/lang/invoke/VarHandle" ∧ (parseMethodDescriptor yX4_isDigit.desc).map (fun d => d.parameters.length) = some 0 := by decide +kernel
theorem inX4_takesCommand_X4 : ∀ w ∈ u_ws (cg_T 4).1 (cg_T 4).2.1 (cg_T 4).2.2, w ∈ wsX4_takesCommand := by decide +kernel
theorem flX4_takesCommand_137 : Cond.fieldLink RX4 137 ((cg_T 4).2.1 9).1 ((cg_T 4).2.1 9).2.1 ((cg_T 4).2.1 9).2.2.1 ∈ wsX4_takesCommand := by decide +kernel
theorem flX4_takesCommand_122 : Cond.fieldLink RX4 122 ((cg_T 4).2.1 7).1 ((cg_T 4).2.1 7).2.1 ((cg_T 4).2.1 7).2.2.1 ∈ wsX4_takesCommand := by decide +kernel
theorem hsX4_numbersOf : yX4_numbersOf.cls ≠ "java/lang/invoke/MethodHandle" ∧ yX4_numbersOf.cls ≠ "java/lang/invoke/VarHandle" ∧ (parseMethodDescriptor yX4_numbersOf.desc).map (fun d => d.parameters.length) = some 1 := by decide +kernel
theorem hvX4_takesNumber : yX4_takesNumber.cls = (cg_T 4).1 ∧ yX4_takesNumber.cls ≠ "java/lang/invoke/MethodHandle" ∧ yX4_takesNumber.cls ≠ "java/lang/invoke/VarHandle" ∧ (parseMethodDescriptor yX4_takesNumber.desc).map (fun d => d.parameters.length) = some 1 := by decide +kernel
theorem inX4_doesCommand_X4 : ∀ w ∈ u_ws (cg_T 4).1 (cg_T 4).2.1 (cg_T 4).2.2, w ∈ wsX4_doesCommand := by decide +kernel
theorem flX4_doesCommand_25 : Cond.fieldLink RX4 25 ((cg_T 4).2.1 8).1 ((cg_T 4).2.1 8).2.1 ((cg_T 4).2.1 8).2.2.1 ∈ wsX4_doesCommand := by decide +kernel
theorem flX4_doesCommand_137 : Cond.fieldLink RX4 137 ((cg_T 4).2.1 9).1 ((cg_T 4).2.1 9).2.1 ((cg_T 4).2.1 9).2.2.1 ∈ wsX4_doesCommand := by decide +kernel
theorem inX4_execute_X4 : ∀ w ∈ u_ws (cg_T 4).1 (cg_T 4).2.1 (cg_T 4).2.2, w ∈ wsX4_execute := by decide +kernel
theorem flX4_execute_122 : Cond.fieldLink RX4 122 ((cg_T 4).2.1 7).1 ((cg_T 4).2.1 7).2.1 ((cg_T 4).2.1 7).2.2.1 ∈ wsX4_execute := by decide +kernel
theorem flX4_execute_7 : Cond.fieldLink RX4 7 ((cg_T 4).2.1 0).1 ((cg_T 4).2.1 0).2.1 ((cg_T 4).2.1 0).2.2.1 ∈ wsX4_execute := by decide +kernel
theorem flX4_execute_16 : Cond.fieldLink RX4 16 ((cg_T 4).2.1 3).1 ((cg_T 4).2.1 3).2.1 ((cg_T 4).2.1 3).2.2.1 ∈ wsX4_execute := by decide +kernel
theorem hvX4_takesCommand : yX4_takesCommand.cls = (cg_T 4).1 ∧ yX4_takesCommand.cls ≠ "java/lang/invoke/MethodHandle" ∧ yX4_takesCommand.cls ≠ "java/lang/invoke/VarHandle" ∧ (parseMethodDescriptor yX4_takesCommand.desc).map (fun d => d.parameters.length) = some 0 := by decide +kernel
theorem hvX4_doesCommand : yX4_doesCommand.cls = (cg_T 4).1 ∧ yX4_doesCommand.cls ≠ "java/lang/invoke/MethodHandle" ∧ yX4_doesCommand.cls ≠ "java/lang/invoke/VarHandle" ∧ (parseMethodDescriptor yX4_doesCommand.desc).map (fun d => d.parameters.length) = some 0 := by decide +kernel
theorem inX4_undo_X4 : ∀ w ∈ u_ws (cg_T 4).1 (cg_T 4).2.1 (cg_T 4).2.2, w ∈ wsX4_undo := by decide +kernel
theorem flX4_undo_35 : Cond.fieldLink RX4 35 ((cg_T 4).2.1 2).1 ((cg_T 4).2.1 2).2.1 ((cg_T 4).2.1 2).2.2.1 ∈ wsX4_undo := by decide +kernel
theorem flX4_undo_7 : Cond.fieldLink RX4 7 ((cg_T 4).2.1 0).1 ((cg_T 4).2.1 0).2.1 ((cg_T 4).2.1 0).2.2.1 ∈ wsX4_undo := by decide +kernel
theorem flX4_undo_13 : Cond.fieldLink RX4 13 ((cg_T 4).2.1 1).1 ((cg_T 4).2.1 1).2.1 ((cg_T 4).2.1 1).2.2.1 ∈ wsX4_undo := by decide +kernel
theorem klX4_errorCount_152 : Jvm.Cond.constantLong RX4 152 (-6) ∈ wsX4_errorCount := by decide +kernel
theorem klX4_errorCount_154 : Jvm.Cond.constantLong RX4 154 (-2) ∈ wsX4_errorCount := by decide +kernel
theorem inX4_errorCount_X4 : ∀ w ∈ u_ws (cg_T 4).1 (cg_T 4).2.1 (cg_T 4).2.2, w ∈ wsX4_errorCount := by decide +kernel
theorem flX4_errorCount_19 : Cond.fieldLink RX4 19 ((cg_T 4).2.1 4).1 ((cg_T 4).2.1 4).2.1 ((cg_T 4).2.1 4).2.2.1 ∈ wsX4_errorCount := by decide +kernel
theorem inX4_writes_X4 : ∀ w ∈ u_ws (cg_T 4).1 (cg_T 4).2.1 (cg_T 4).2.2, w ∈ wsX4_writes := by decide +kernel
theorem flX4_writes_7 : Cond.fieldLink RX4 7 ((cg_T 4).2.1 0).1 ((cg_T 4).2.1 0).2.1 ((cg_T 4).2.1 0).2.2.1 ∈ wsX4_writes := by decide +kernel
theorem klX4_digest_156 : Jvm.Cond.constantLong RX4 156 (2647) ∈ wsX4_digest := by decide +kernel
theorem klX4_digest_158 : Jvm.Cond.constantLong RX4 158 (31) ∈ wsX4_digest := by decide +kernel
theorem inX4_digest_X4 : ∀ w ∈ u_ws (cg_T 4).1 (cg_T 4).2.1 (cg_T 4).2.2, w ∈ wsX4_digest := by decide +kernel
theorem flX4_digest_19 : Cond.fieldLink RX4 19 ((cg_T 4).2.1 4).1 ((cg_T 4).2.1 4).2.1 ((cg_T 4).2.1 4).2.2.1 ∈ wsX4_digest := by decide +kernel
theorem flX4_digest_7 : Cond.fieldLink RX4 7 ((cg_T 4).2.1 0).1 ((cg_T 4).2.1 0).2.1 ((cg_T 4).2.1 0).2.2.1 ∈ wsX4_digest := by decide +kernel
theorem flX4_digest_119 : Cond.fieldLink RX4 119 ((cg_T 4).2.1 6).1 ((cg_T 4).2.1 6).2.1 ((cg_T 4).2.1 6).2.2.1 ∈ wsX4_digest := by decide +kernel
theorem flX4_digest_35 : Cond.fieldLink RX4 35 ((cg_T 4).2.1 2).1 ((cg_T 4).2.1 2).2.1 ((cg_T 4).2.1 2).2.2.1 ∈ wsX4_digest := by decide +kernel
