/-! ===== the law's loop ===== -/
theorem hvX3_setGuarantees : yX3_setGuarantees.cls = (cg_T 3).1 ∧ yX3_setGuarantees.cls ≠ "java/lang/invoke/MethodHandle" ∧ yX3_setGuarantees.cls ≠ "java/lang/invoke/VarHandle" ∧ (parseMethodDescriptor yX3_setGuarantees.desc).map (fun d => d.parameters.length) = some 2 := by decide +kernel
theorem hvX4_setGuarantees : yX4_setGuarantees.cls = (cg_T 4).1 ∧ yX4_setGuarantees.cls ≠ "java/lang/invoke/MethodHandle" ∧ yX4_setGuarantees.cls ≠ "java/lang/invoke/VarHandle" ∧ (parseMethodDescriptor yX4_setGuarantees.desc).map (fun d => d.parameters.length) = some 2 := by decide +kernel
theorem hvX3_forget : yX3_forget.cls = (cg_T 3).1 ∧ yX3_forget.cls ≠ "java/lang/invoke/MethodHandle" ∧ yX3_forget.cls ≠ "java/lang/invoke/VarHandle" ∧ (parseMethodDescriptor yX3_forget.desc).map (fun d => d.parameters.length) = some 1 := by decide +kernel
theorem hvX4_forget : yX4_forget.cls = (cg_T 4).1 ∧ yX4_forget.cls ≠ "java/lang/invoke/MethodHandle" ∧ yX4_forget.cls ≠ "java/lang/invoke/VarHandle" ∧ (parseMethodDescriptor yX4_forget.desc).map (fun d => d.parameters.length) = some 1 := by decide +kernel
theorem hvX3_readCount : yX3_readCount.cls = (cg_T 3).1 ∧ yX3_readCount.cls ≠ "java/lang/invoke/MethodHandle" ∧ yX3_readCount.cls ≠ "java/lang/invoke/VarHandle" ∧ (parseMethodDescriptor yX3_readCount.desc).map (fun d => d.parameters.length) = some 2 := by decide +kernel
theorem hvX4_readCount : yX4_readCount.cls = (cg_T 4).1 ∧ yX4_readCount.cls ≠ "java/lang/invoke/MethodHandle" ∧ yX4_readCount.cls ≠ "java/lang/invoke/VarHandle" ∧ (parseMethodDescriptor yX4_readCount.desc).map (fun d => d.parameters.length) = some 2 := by decide +kernel
theorem hvX3_writeCount : yX3_writeCount.cls = (cg_T 3).1 ∧ yX3_writeCount.cls ≠ "java/lang/invoke/MethodHandle" ∧ yX3_writeCount.cls ≠ "java/lang/invoke/VarHandle" ∧ (parseMethodDescriptor yX3_writeCount.desc).map (fun d => d.parameters.length) = some 2 := by decide +kernel
theorem hvX4_writeCount : yX4_writeCount.cls = (cg_T 4).1 ∧ yX4_writeCount.cls ≠ "java/lang/invoke/MethodHandle" ∧ yX4_writeCount.cls ≠ "java/lang/invoke/VarHandle" ∧ (parseMethodDescriptor yX4_writeCount.desc).map (fun d => d.parameters.length) = some 2 := by decide +kernel
theorem hvX3_read : yX3_read.cls = (cg_T 3).1 ∧ yX3_read.cls ≠ "java/lang/invoke/MethodHandle" ∧ yX3_read.cls ≠ "java/lang/invoke/VarHandle" ∧ (parseMethodDescriptor yX3_read.desc).map (fun d => d.parameters.length) = some 3 := by decide +kernel
theorem hvX4_read : yX4_read.cls = (cg_T 4).1 ∧ yX4_read.cls ≠ "java/lang/invoke/MethodHandle" ∧ yX4_read.cls ≠ "java/lang/invoke/VarHandle" ∧ (parseMethodDescriptor yX4_read.desc).map (fun d => d.parameters.length) = some 3 := by decide +kernel
theorem hvX3_write : yX3_write.cls = (cg_T 3).1 ∧ yX3_write.cls ≠ "java/lang/invoke/MethodHandle" ∧ yX3_write.cls ≠ "java/lang/invoke/VarHandle" ∧ (parseMethodDescriptor yX3_write.desc).map (fun d => d.parameters.length) = some 4 := by decide +kernel
theorem hvX4_write : yX4_write.cls = (cg_T 4).1 ∧ yX4_write.cls ≠ "java/lang/invoke/MethodHandle" ∧ yX4_write.cls ≠ "java/lang/invoke/VarHandle" ∧ (parseMethodDescriptor yX4_write.desc).map (fun d => d.parameters.length) = some 4 := by decide +kernel
theorem hvX3_sync : yX3_sync.cls = (cg_T 3).1 ∧ yX3_sync.cls ≠ "java/lang/invoke/MethodHandle" ∧ yX3_sync.cls ≠ "java/lang/invoke/VarHandle" ∧ (parseMethodDescriptor yX3_sync.desc).map (fun d => d.parameters.length) = some 2 := by decide +kernel
theorem hvX4_sync : yX4_sync.cls = (cg_T 4).1 ∧ yX4_sync.cls ≠ "java/lang/invoke/MethodHandle" ∧ yX4_sync.cls ≠ "java/lang/invoke/VarHandle" ∧ (parseMethodDescriptor yX4_sync.desc).map (fun d => d.parameters.length) = some 2 := by decide +kernel
theorem hvX3_readBreaches : yX3_readBreaches.cls = (cg_T 3).1 ∧ yX3_readBreaches.cls ≠ "java/lang/invoke/MethodHandle" ∧ yX3_readBreaches.cls ≠ "java/lang/invoke/VarHandle" ∧ (parseMethodDescriptor yX3_readBreaches.desc).map (fun d => d.parameters.length) = some 2 := by decide +kernel
theorem hvX4_readBreaches : yX4_readBreaches.cls = (cg_T 4).1 ∧ yX4_readBreaches.cls ≠ "java/lang/invoke/MethodHandle" ∧ yX4_readBreaches.cls ≠ "java/lang/invoke/VarHandle" ∧ (parseMethodDescriptor yX4_readBreaches.desc).map (fun d => d.parameters.length) = some 2 := by decide +kernel
theorem hvX3_writeBreaches : yX3_writeBreaches.cls = (cg_T 3).1 ∧ yX3_writeBreaches.cls ≠ "java/lang/invoke/MethodHandle" ∧ yX3_writeBreaches.cls ≠ "java/lang/invoke/VarHandle" ∧ (parseMethodDescriptor yX3_writeBreaches.desc).map (fun d => d.parameters.length) = some 2 := by decide +kernel
theorem hvX4_writeBreaches : yX4_writeBreaches.cls = (cg_T 4).1 ∧ yX4_writeBreaches.cls ≠ "java/lang/invoke/MethodHandle" ∧ yX4_writeBreaches.cls ≠ "java/lang/invoke/VarHandle" ∧ (parseMethodDescriptor yX4_writeBreaches.desc).map (fun d => d.parameters.length) = some 2 := by decide +kernel
theorem hvX3_readableReplica : yX3_readableReplica.cls = (cg_T 3).1 ∧ yX3_readableReplica.cls ≠ "java/lang/invoke/MethodHandle" ∧ yX3_readableReplica.cls ≠ "java/lang/invoke/VarHandle" ∧ (parseMethodDescriptor yX3_readableReplica.desc).map (fun d => d.parameters.length) = some 1 := by decide +kernel
theorem hvX4_readableReplica : yX4_readableReplica.cls = (cg_T 4).1 ∧ yX4_readableReplica.cls ≠ "java/lang/invoke/MethodHandle" ∧ yX4_readableReplica.cls ≠ "java/lang/invoke/VarHandle" ∧ (parseMethodDescriptor yX4_readableReplica.desc).map (fun d => d.parameters.length) = some 1 := by decide +kernel
theorem hvX3_writableReplica : yX3_writableReplica.cls = (cg_T 3).1 ∧ yX3_writableReplica.cls ≠ "java/lang/invoke/MethodHandle" ∧ yX3_writableReplica.cls ≠ "java/lang/invoke/VarHandle" ∧ (parseMethodDescriptor yX3_writableReplica.desc).map (fun d => d.parameters.length) = some 1 := by decide +kernel
theorem hvX4_writableReplica : yX4_writableReplica.cls = (cg_T 4).1 ∧ yX4_writableReplica.cls ≠ "java/lang/invoke/MethodHandle" ∧ yX4_writableReplica.cls ≠ "java/lang/invoke/VarHandle" ∧ (parseMethodDescriptor yX4_writableReplica.desc).map (fun d => d.parameters.length) = some 1 := by decide +kernel
theorem hvX3_syncsForRead : yX3_syncsForRead.cls = (cg_T 3).1 ∧ yX3_syncsForRead.cls ≠ "java/lang/invoke/MethodHandle" ∧ yX3_syncsForRead.cls ≠ "java/lang/invoke/VarHandle" ∧ (parseMethodDescriptor yX3_syncsForRead.desc).map (fun d => d.parameters.length) = some 2 := by decide +kernel
theorem hvX4_syncsForRead : yX4_syncsForRead.cls = (cg_T 4).1 ∧ yX4_syncsForRead.cls ≠ "java/lang/invoke/MethodHandle" ∧ yX4_syncsForRead.cls ≠ "java/lang/invoke/VarHandle" ∧ (parseMethodDescriptor yX4_syncsForRead.desc).map (fun d => d.parameters.length) = some 2 := by decide +kernel
theorem hvX3_count : yX3_count.cls = (cg_T 3).1 ∧ yX3_count.cls ≠ "java/lang/invoke/MethodHandle" ∧ yX3_count.cls ≠ "java/lang/invoke/VarHandle" ∧ (parseMethodDescriptor yX3_count.desc).map (fun d => d.parameters.length) = some 2 := by decide +kernel
theorem hvX4_count : yX4_count.cls = (cg_T 4).1 ∧ yX4_count.cls ≠ "java/lang/invoke/MethodHandle" ∧ yX4_count.cls ≠ "java/lang/invoke/VarHandle" ∧ (parseMethodDescriptor yX4_count.desc).map (fun d => d.parameters.length) = some 2 := by decide +kernel
theorem hvX3_clock : yX3_clock.cls = (cg_T 3).1 ∧ yX3_clock.cls ≠ "java/lang/invoke/MethodHandle" ∧ yX3_clock.cls ≠ "java/lang/invoke/VarHandle" ∧ (parseMethodDescriptor yX3_clock.desc).map (fun d => d.parameters.length) = some 1 := by decide +kernel
theorem hvX4_clock : yX4_clock.cls = (cg_T 4).1 ∧ yX4_clock.cls ≠ "java/lang/invoke/MethodHandle" ∧ yX4_clock.cls ≠ "java/lang/invoke/VarHandle" ∧ (parseMethodDescriptor yX4_clock.desc).map (fun d => d.parameters.length) = some 1 := by decide +kernel
theorem hvX3_peek : yX3_peek.cls = (cg_T 3).1 ∧ yX3_peek.cls ≠ "java/lang/invoke/MethodHandle" ∧ yX3_peek.cls ≠ "java/lang/invoke/VarHandle" ∧ (parseMethodDescriptor yX3_peek.desc).map (fun d => d.parameters.length) = some 2 := by decide +kernel
theorem hvX4_peek : yX4_peek.cls = (cg_T 4).1 ∧ yX4_peek.cls ≠ "java/lang/invoke/MethodHandle" ∧ yX4_peek.cls ≠ "java/lang/invoke/VarHandle" ∧ (parseMethodDescriptor yX4_peek.desc).map (fun d => d.parameters.length) = some 2 := by decide +kernel
theorem hvX3_compare : yX3_compare.cls = (cg_T 3).1 ∧ yX3_compare.cls ≠ "java/lang/invoke/MethodHandle" ∧ yX3_compare.cls ≠ "java/lang/invoke/VarHandle" ∧ (parseMethodDescriptor yX3_compare.desc).map (fun d => d.parameters.length) = some 2 := by decide +kernel
theorem hvX4_compare : yX4_compare.cls = (cg_T 4).1 ∧ yX4_compare.cls ≠ "java/lang/invoke/MethodHandle" ∧ yX4_compare.cls ≠ "java/lang/invoke/VarHandle" ∧ (parseMethodDescriptor yX4_compare.desc).map (fun d => d.parameters.length) = some 2 := by decide +kernel
theorem hvX3_breaches : yX3_breaches.cls = (cg_T 3).1 ∧ yX3_breaches.cls ≠ "java/lang/invoke/MethodHandle" ∧ yX3_breaches.cls ≠ "java/lang/invoke/VarHandle" ∧ (parseMethodDescriptor yX3_breaches.desc).map (fun d => d.parameters.length) = some 1 := by decide +kernel
theorem hvX4_breaches : yX4_breaches.cls = (cg_T 4).1 ∧ yX4_breaches.cls ≠ "java/lang/invoke/MethodHandle" ∧ yX4_breaches.cls ≠ "java/lang/invoke/VarHandle" ∧ (parseMethodDescriptor yX4_breaches.desc).map (fun d => d.parameters.length) = some 1 := by decide +kernel
theorem hvX3_append : yX3_append.cls = (cg_T 3).1 ∧ yX3_append.cls ≠ "java/lang/invoke/MethodHandle" ∧ yX3_append.cls ≠ "java/lang/invoke/VarHandle" ∧ (parseMethodDescriptor yX3_append.desc).map (fun d => d.parameters.length) = some 1 := by decide +kernel
theorem hvX4_append : yX4_append.cls = (cg_T 4).1 ∧ yX4_append.cls ≠ "java/lang/invoke/MethodHandle" ∧ yX4_append.cls ≠ "java/lang/invoke/VarHandle" ∧ (parseMethodDescriptor yX4_append.desc).map (fun d => d.parameters.length) = some 1 := by decide +kernel
theorem hvX3_clearText : yX3_clearText.cls = (cg_T 3).1 ∧ yX3_clearText.cls ≠ "java/lang/invoke/MethodHandle" ∧ yX3_clearText.cls ≠ "java/lang/invoke/VarHandle" ∧ (parseMethodDescriptor yX3_clearText.desc).map (fun d => d.parameters.length) = some 0 := by decide +kernel
theorem hvX4_clearText : yX4_clearText.cls = (cg_T 4).1 ∧ yX4_clearText.cls ≠ "java/lang/invoke/MethodHandle" ∧ yX4_clearText.cls ≠ "java/lang/invoke/VarHandle" ∧ (parseMethodDescriptor yX4_clearText.desc).map (fun d => d.parameters.length) = some 0 := by decide +kernel
theorem hvX3_execute : yX3_execute.cls = (cg_T 3).1 ∧ yX3_execute.cls ≠ "java/lang/invoke/MethodHandle" ∧ yX3_execute.cls ≠ "java/lang/invoke/VarHandle" ∧ (parseMethodDescriptor yX3_execute.desc).map (fun d => d.parameters.length) = some 0 := by decide +kernel
theorem hvX4_execute : yX4_execute.cls = (cg_T 4).1 ∧ yX4_execute.cls ≠ "java/lang/invoke/MethodHandle" ∧ yX4_execute.cls ≠ "java/lang/invoke/VarHandle" ∧ (parseMethodDescriptor yX4_execute.desc).map (fun d => d.parameters.length) = some 0 := by decide +kernel
theorem hvX3_undo : yX3_undo.cls = (cg_T 3).1 ∧ yX3_undo.cls ≠ "java/lang/invoke/MethodHandle" ∧ yX3_undo.cls ≠ "java/lang/invoke/VarHandle" ∧ (parseMethodDescriptor yX3_undo.desc).map (fun d => d.parameters.length) = some 0 := by decide +kernel
theorem hvX4_undo : yX4_undo.cls = (cg_T 4).1 ∧ yX4_undo.cls ≠ "java/lang/invoke/MethodHandle" ∧ yX4_undo.cls ≠ "java/lang/invoke/VarHandle" ∧ (parseMethodDescriptor yX4_undo.desc).map (fun d => d.parameters.length) = some 0 := by decide +kernel
theorem hvX3_errorCount : yX3_errorCount.cls = (cg_T 3).1 ∧ yX3_errorCount.cls ≠ "java/lang/invoke/MethodHandle" ∧ yX3_errorCount.cls ≠ "java/lang/invoke/VarHandle" ∧ (parseMethodDescriptor yX3_errorCount.desc).map (fun d => d.parameters.length) = some 1 := by decide +kernel
theorem hvX4_errorCount : yX4_errorCount.cls = (cg_T 4).1 ∧ yX4_errorCount.cls ≠ "java/lang/invoke/MethodHandle" ∧ yX4_errorCount.cls ≠ "java/lang/invoke/VarHandle" ∧ (parseMethodDescriptor yX4_errorCount.desc).map (fun d => d.parameters.length) = some 1 := by decide +kernel
theorem hvX3_writes : yX3_writes.cls = (cg_T 3).1 ∧ yX3_writes.cls ≠ "java/lang/invoke/MethodHandle" ∧ yX3_writes.cls ≠ "java/lang/invoke/VarHandle" ∧ (parseMethodDescriptor yX3_writes.desc).map (fun d => d.parameters.length) = some 0 := by decide +kernel
theorem hvX4_writes : yX4_writes.cls = (cg_T 4).1 ∧ yX4_writes.cls ≠ "java/lang/invoke/MethodHandle" ∧ yX4_writes.cls ≠ "java/lang/invoke/VarHandle" ∧ (parseMethodDescriptor yX4_writes.desc).map (fun d => d.parameters.length) = some 0 := by decide +kernel
theorem hvX3_digest : yX3_digest.cls = (cg_T 3).1 ∧ yX3_digest.cls ≠ "java/lang/invoke/MethodHandle" ∧ yX3_digest.cls ≠ "java/lang/invoke/VarHandle" ∧ (parseMethodDescriptor yX3_digest.desc).map (fun d => d.parameters.length) = some 0 := by decide +kernel
theorem hvX4_digest : yX4_digest.cls = (cg_T 4).1 ∧ yX4_digest.cls ≠ "java/lang/invoke/MethodHandle" ∧ yX4_digest.cls ≠ "java/lang/invoke/VarHandle" ∧ (parseMethodDescriptor yX4_digest.desc).map (fun d => d.parameters.length) = some 0 := by decide +kernel
/-- the script, beside the world -/
def cg_X (E : cg_E) (L : Nat) (xs : Nat → Int32) : Prop := match E with
  | (_, _, _, _, s, _, _, _, _, _, _, g, A, _, _) => va_X (g.2.2 (9, 0, 0, 0)) L xs s s.heap ∧ g.2.2 (9, 0, 0, 0) < s.heap.size ∧ ¬ A (g.2.2 (9, 0, 0, 0))
section CGL
variable {E : cg_E} {cc : ByteArray} {nL : Nat} {own : String} {Ts : List Cond} {rm : Room} {M : cg_M} {pc : Nat} {ls : List (Option cg_V)} {rest : List cg_V} {L : Nat} {xs : Nat → Int32}
theorem cr_sld (C : cg_C E cc nL own Ts rm) (X : cg_X E L xs) {k : Nat} (hk : k < L) (hL : L < 2147483648) (d : decode cc pc = .ok (.iaload, 1)) (K : cg_W E M (pc + 1) ls (.inl (xs k) :: rest)) : cg_W E M pc ls (.inl (nI k) :: .inr (.inr (9, 0, 0, 0)) :: rest) := by
  obtain ⟨p, l, e, R, s, m, args, below, meth, c, Q, g, A, cells, slots⟩ := E
  intro H locs la hH hS hl
  refine va_sld C.1 C.2.1 X.1 X.2.1 X.2.2 hS (vp_in_nI hk hL) d ?_
  rw [nI_clamp (by omega)]
  exact K H locs la hH hS hl
theorem cr_slen (C : cg_C E cc nL own Ts rm) (X : cg_X E L xs) (d : decode cc pc = .ok (.arraylength, 1)) (K : cg_W E M (pc + 1) ls (.inl (nI L) :: rest)) : cg_W E M pc ls (.inr (.inr (9, 0, 0, 0)) :: rest) := by
  obtain ⟨p, l, e, R, s, m, args, below, meth, c, Q, g, A, cells, slots⟩ := E
  intro H locs la hH hS hl
  exact va_slen C.1 C.2.1 X.1 X.2.1 X.2.2 hS d (K H locs la hH hS hl)
theorem cr_tIn (C : cg_C E cc nL own Ts rm) {dflt lo hi : Int} {offs : Array Int} {len : Nat} {x : Int32} {off : Int} {tgt : Nat} (d : decode cc pc = .ok (.tableswitch dflt lo hi offs, len)) (h1 : ¬ x.toInt < lo) (h2 : ¬ hi < x.toInt) (ho : offs[(x.toInt - lo).toNat]? = some off) (ht : (pc : Int) + off = (tgt : Int)) (K : cg_W E M tgt ls rest) : cg_W E M pc ls (.inl x :: rest) := by
  obtain ⟨p, l, e, R, s, m, args, below, meth, c, Q, g, A, cells, slots⟩ := E
  intro H locs la hH hS hl
  exact lv_tableIn C.1 C.2.1 d h1 h2 ho ht (K H locs la hH hS hl)
theorem cr_tOut (C : cg_C E cc nL own Ts rm) {dflt lo hi : Int} {offs : Array Int} {len : Nat} {x : Int32} {tgt : Nat} (d : decode cc pc = .ok (.tableswitch dflt lo hi offs, len)) (h : x.toInt < lo ∨ hi < x.toInt) (ht : (pc : Int) + dflt = (tgt : Int)) (K : cg_W E M tgt ls rest) : cg_W E M pc ls (.inl x :: rest) := by
  obtain ⟨p, l, e, R, s, m, args, below, meth, c, Q, g, A, cells, slots⟩ := E
  intro H locs la hH hS hl
  exact lv_tableOut C.1 C.2.1 d h ht (K H locs la hH hS hl)
end CGL
theorem cg_and31 (x : Int32) : ∃ v, v < 32 ∧ x &&& nI 31 = nI v := by
  refine ⟨(x.toBitVec &&& 31#32).toNat, ?_, ?_⟩
  · rw [BitVec.toNat_and]
    exact Nat.lt_of_le_of_lt Nat.and_le_right (by decide)
  · apply Int32.toBitVec_inj.mp
    show x.toBitVec &&& 31#32 = BitVec.ofNat 32 _
    rw [BitVec.ofNat_toNat, BitVec.setWidth_eq]
theorem cg_inc5 (a : Nat) : nI a + Int32.ofInt 5 = nI (a + 5) := nI_add a 5

set_option maxRecDepth 100000 in
set_option maxHeartbeats 40000000 in
theorem law_loop {E : cg_E} {L : Nat} {xs : Nat → Int32} (C : cg_C E cL_law 4 RL wsL_law room_1) (X : cg_X E L xs) (hL : L ≤ 2560) (hret : ∀ M ls, cg_W E M 804 ls [.inl (nI 1)]) : ∀ (n i : Nat) (M : cg_M), L < i + n → i ≤ L → cg_J M → cg_W E M 18 [some (.inr (.inr (9, 0, 0, 0))), some (.inr (.inr (3, 0, 0, 0))), some (.inr (.inr (4, 0, 0, 0))), some (.inl (nI i))] [] := by
  intro n
  induction n with
  | zero => intro i M hn hiL; exact absurd hn (by omega)
  | succ n ih =>
    intro i M hn hiL hJ
    refine cr_iload_n (pc := 18) C dL_law_18 rfl ?_
    refine cr_aload_n (pc := 19) C dL_law_19 rfl ?_
    refine cr_slen (pc := 20) C X dL_law_20 ?_
    refine cr_iconst (pc := 21) (v := nI 5) C dL_law_21 (by decide) ?_
    refine cr_isub (pc := 22) C dL_law_22 ?_
    by_cases h5 : i + 5 ≤ L
    · refine cr_top (show nI L - nI 5 = nI (L - 5) from pk_sub (by omega)) ?_
      refine cr_icmp_gt_f (pc := 23) (tgt := 803) C dL_law_23 (by decide) (nI_nlt (by omega) (by omega)) ?_
      refine cr_aload_n (pc := 26) C dL_law_26 rfl ?_
      refine cr_iload_n (pc := 27) C dL_law_27 rfl ?_
      refine cr_sld (pc := 28) C X (k := i) (by omega) (by omega) dL_law_28 ?_
      refine cr_bipush (pc := 29) (v := nI 31) C dL_law_29 (by decide) ?_
      refine cr_iand (pc := 31) C dL_law_31 ?_
      obtain ⟨v0, hv0, ev0⟩ := cg_and31 (xs i)
      refine cr_top ev0 ?_
      have nxt : ∀ M2, cg_J M2 → cg_W E M2 797 [some (.inr (.inr (9, 0, 0, 0))), some (.inr (.inr (3, 0, 0, 0))), some (.inr (.inr (4, 0, 0, 0))), some (.inl (nI i))] [] := by
        intro M2 hJ2
        refine cr_iinc3 (pc := 797) C dL_law_797 (cg_inc5 _) (by decide) rfl ?_
        refine cr_goto (pc := 800) (tgt := 18) C dL_law_800 (by decide) ?_
        exact ih (i + 5) M2 (by omega) h5 hJ2
      have hsum : ∀ v : cg_V, (([v] : List cg_V).map fun v => if cg_two v then 2 else 1).sum ≤ 8 := by
        intro v
        rcases v with v | v | v <;> show _ ≤ _ <;> first | exact (by decide : 1 + 0 ≤ 8) | exact (by decide : 2 + 0 ≤ 8)
      rcases (show v0 = 0 ∨ v0 = 1 ∨ v0 = 2 ∨ v0 = 3 ∨ v0 = 4 ∨ v0 = 5 ∨ v0 = 6 ∨ v0 = 7 ∨ v0 = 8 ∨ v0 = 9 ∨ v0 = 10 ∨ v0 = 11 ∨ v0 = 12 ∨ v0 = 13 ∨ v0 = 14 ∨ v0 = 15 ∨ v0 = 16 ∨ v0 = 17 ∨ v0 = 18 ∨ v0 = 19 ∨ v0 = 20 ∨ v0 = 21 ∨ v0 = 22 ∨ v0 = 23 ∨ 24 ≤ v0 by omega) with rfl | rfl | rfl | rfl | rfl | rfl | rfl | rfl | rfl | rfl | rfl | rfl | rfl | rfl | rfl | rfl | rfl | rfl | rfl | rfl | rfl | rfl | rfl | rfl | hv24
      · refine cr_tIn (pc := 32) (tgt := 144) (off := 112) C dL_law_32 (by decide) (by decide) (by decide) (by decide) ?_
        obtain ⟨v, M1, hc, hm⟩ := st_setGuarantees (x := (xs (i + 1))) (y := (xs (i + 2))) hJ
        refine cr_aload_n (pc := 144) C dL_law_144 rfl ?_
        refine cr_aload_n (pc := 145) C dL_law_145 rfl ?_
        refine cr_iload_n (pc := 146) C dL_law_146 rfl ?_
        refine cr_iconst (pc := 147) (v := nI 1) C dL_law_147 (by decide) ?_
        refine cr_iadd_n (pc := 148) C dL_law_148 ?_
        refine cr_sld (pc := 149) C X (k := i + 1) (by omega) (by omega) dL_law_149 ?_
        refine cr_aload_n (pc := 150) C dL_law_150 rfl ?_
        refine cr_iload_n (pc := 151) C dL_law_151 rfl ?_
        refine cr_iconst (pc := 152) (v := nI 2) C dL_law_152 (by decide) ?_
        refine cr_iadd_n (pc := 153) C dL_law_153 ?_
        refine cr_sld (pc := 154) C X (k := i + 2) (by omega) (by omega) dL_law_154 ?_
        refine cr_dV (pc := 155) C hc rfl gL_law_X3_setGuarantees rfl dL_law_155 rfl rfl hvX3_setGuarantees rfl ⟨rfl, rfl, Nat.le_of_ble_eq_true rfl, Nat.le_of_ble_eq_true rfl⟩ (Nat.le_of_ble_eq_true rfl) rfl ?_
        refine cr_aload_n (pc := 158) C dL_law_158 rfl ?_
        refine cr_aload_n (pc := 159) C dL_law_159 rfl ?_
        refine cr_iload_n (pc := 160) C dL_law_160 rfl ?_
        refine cr_iconst (pc := 161) (v := nI 1) C dL_law_161 (by decide) ?_
        refine cr_iadd_n (pc := 162) C dL_law_162 ?_
        refine cr_sld (pc := 163) C X (k := i + 1) (by omega) (by omega) dL_law_163 ?_
        refine cr_aload_n (pc := 164) C dL_law_164 rfl ?_
        refine cr_iload_n (pc := 165) C dL_law_165 rfl ?_
        refine cr_iconst (pc := 166) (v := nI 2) C dL_law_166 (by decide) ?_
        refine cr_iadd_n (pc := 167) C dL_law_167 ?_
        refine cr_sld (pc := 168) C X (k := i + 2) (by omega) (by omega) dL_law_168 ?_
        refine cr_callV (pc := 169) (rest := [.inl v]) C hm rfl gL_law_X4_setGuarantees rfl dL_law_169 rfl rfl hvX4_setGuarantees rfl ⟨rfl, rfl, Nat.le_of_ble_eq_true rfl, Nat.le_of_ble_eq_true rfl⟩ (hsum _) (fun v1 M2 hp => ?_)
        obtain ⟨rfl, hJ2⟩ := hp
        refine cr_icmp_eq_t (pc := 172) (tgt := 797) C dL_law_172 (by decide) rfl ?_
        exact nxt _ hJ2
      · refine cr_tIn (pc := 32) (tgt := 177) (off := 145) C dL_law_32 (by decide) (by decide) (by decide) (by decide) ?_
        obtain ⟨v, M1, hc, hm⟩ := st_forget (x := (xs (i + 1))) hJ
        refine cr_aload_n (pc := 177) C dL_law_177 rfl ?_
        refine cr_aload_n (pc := 178) C dL_law_178 rfl ?_
        refine cr_iload_n (pc := 179) C dL_law_179 rfl ?_
        refine cr_iconst (pc := 180) (v := nI 1) C dL_law_180 (by decide) ?_
        refine cr_iadd_n (pc := 181) C dL_law_181 ?_
        refine cr_sld (pc := 182) C X (k := i + 1) (by omega) (by omega) dL_law_182 ?_
        refine cr_dV (pc := 183) C hc rfl gL_law_X3_forget rfl dL_law_183 rfl rfl hvX3_forget rfl ⟨rfl, rfl, Nat.le_of_ble_eq_true rfl, Nat.le_of_ble_eq_true rfl⟩ (Nat.le_of_ble_eq_true rfl) rfl ?_
        refine cr_aload_n (pc := 186) C dL_law_186 rfl ?_
        refine cr_aload_n (pc := 187) C dL_law_187 rfl ?_
        refine cr_iload_n (pc := 188) C dL_law_188 rfl ?_
        refine cr_iconst (pc := 189) (v := nI 1) C dL_law_189 (by decide) ?_
        refine cr_iadd_n (pc := 190) C dL_law_190 ?_
        refine cr_sld (pc := 191) C X (k := i + 1) (by omega) (by omega) dL_law_191 ?_
        refine cr_callV (pc := 192) (rest := [.inl v]) C hm rfl gL_law_X4_forget rfl dL_law_192 rfl rfl hvX4_forget rfl ⟨rfl, rfl, Nat.le_of_ble_eq_true rfl, Nat.le_of_ble_eq_true rfl⟩ (hsum _) (fun v1 M2 hp => ?_)
        obtain ⟨rfl, hJ2⟩ := hp
        refine cr_icmp_eq_t (pc := 195) (tgt := 797) C dL_law_195 (by decide) rfl ?_
        exact nxt _ hJ2
      · refine cr_tIn (pc := 32) (tgt := 200) (off := 168) C dL_law_32 (by decide) (by decide) (by decide) (by decide) ?_
        obtain ⟨v, M1, hc, hm⟩ := st_readCount (x := (xs (i + 1))) (y := (xs (i + 2))) hJ
        refine cr_aload_n (pc := 200) C dL_law_200 rfl ?_
        refine cr_aload_n (pc := 201) C dL_law_201 rfl ?_
        refine cr_iload_n (pc := 202) C dL_law_202 rfl ?_
        refine cr_iconst (pc := 203) (v := nI 1) C dL_law_203 (by decide) ?_
        refine cr_iadd_n (pc := 204) C dL_law_204 ?_
        refine cr_sld (pc := 205) C X (k := i + 1) (by omega) (by omega) dL_law_205 ?_
        refine cr_aload_n (pc := 206) C dL_law_206 rfl ?_
        refine cr_iload_n (pc := 207) C dL_law_207 rfl ?_
        refine cr_iconst (pc := 208) (v := nI 2) C dL_law_208 (by decide) ?_
        refine cr_iadd_n (pc := 209) C dL_law_209 ?_
        refine cr_sld (pc := 210) C X (k := i + 2) (by omega) (by omega) dL_law_210 ?_
        refine cr_dV (pc := 211) C hc rfl gL_law_X3_readCount rfl dL_law_211 rfl rfl hvX3_readCount rfl ⟨rfl, rfl, Nat.le_of_ble_eq_true rfl, Nat.le_of_ble_eq_true rfl⟩ (Nat.le_of_ble_eq_true rfl) rfl ?_
        refine cr_aload_n (pc := 214) C dL_law_214 rfl ?_
        refine cr_aload_n (pc := 215) C dL_law_215 rfl ?_
        refine cr_iload_n (pc := 216) C dL_law_216 rfl ?_
        refine cr_iconst (pc := 217) (v := nI 1) C dL_law_217 (by decide) ?_
        refine cr_iadd_n (pc := 218) C dL_law_218 ?_
        refine cr_sld (pc := 219) C X (k := i + 1) (by omega) (by omega) dL_law_219 ?_
        refine cr_aload_n (pc := 220) C dL_law_220 rfl ?_
        refine cr_iload_n (pc := 221) C dL_law_221 rfl ?_
        refine cr_iconst (pc := 222) (v := nI 2) C dL_law_222 (by decide) ?_
        refine cr_iadd_n (pc := 223) C dL_law_223 ?_
        refine cr_sld (pc := 224) C X (k := i + 2) (by omega) (by omega) dL_law_224 ?_
        refine cr_callV (pc := 225) (rest := [.inl v]) C hm rfl gL_law_X4_readCount rfl dL_law_225 rfl rfl hvX4_readCount rfl ⟨rfl, rfl, Nat.le_of_ble_eq_true rfl, Nat.le_of_ble_eq_true rfl⟩ (hsum _) (fun v1 M2 hp => ?_)
        obtain ⟨rfl, hJ2⟩ := hp
        refine cr_icmp_eq_t (pc := 228) (tgt := 797) C dL_law_228 (by decide) rfl ?_
        exact nxt _ hJ2
      · refine cr_tIn (pc := 32) (tgt := 233) (off := 201) C dL_law_32 (by decide) (by decide) (by decide) (by decide) ?_
        obtain ⟨v, M1, hc, hm⟩ := st_writeCount (x := (xs (i + 1))) (y := (xs (i + 2))) hJ
        refine cr_aload_n (pc := 233) C dL_law_233 rfl ?_
        refine cr_aload_n (pc := 234) C dL_law_234 rfl ?_
        refine cr_iload_n (pc := 235) C dL_law_235 rfl ?_
        refine cr_iconst (pc := 236) (v := nI 1) C dL_law_236 (by decide) ?_
        refine cr_iadd_n (pc := 237) C dL_law_237 ?_
        refine cr_sld (pc := 238) C X (k := i + 1) (by omega) (by omega) dL_law_238 ?_
        refine cr_aload_n (pc := 239) C dL_law_239 rfl ?_
        refine cr_iload_n (pc := 240) C dL_law_240 rfl ?_
        refine cr_iconst (pc := 241) (v := nI 2) C dL_law_241 (by decide) ?_
        refine cr_iadd_n (pc := 242) C dL_law_242 ?_
        refine cr_sld (pc := 243) C X (k := i + 2) (by omega) (by omega) dL_law_243 ?_
        refine cr_dV (pc := 244) C hc rfl gL_law_X3_writeCount rfl dL_law_244 rfl rfl hvX3_writeCount rfl ⟨rfl, rfl, Nat.le_of_ble_eq_true rfl, Nat.le_of_ble_eq_true rfl⟩ (Nat.le_of_ble_eq_true rfl) rfl ?_
        refine cr_aload_n (pc := 247) C dL_law_247 rfl ?_
        refine cr_aload_n (pc := 248) C dL_law_248 rfl ?_
        refine cr_iload_n (pc := 249) C dL_law_249 rfl ?_
        refine cr_iconst (pc := 250) (v := nI 1) C dL_law_250 (by decide) ?_
        refine cr_iadd_n (pc := 251) C dL_law_251 ?_
        refine cr_sld (pc := 252) C X (k := i + 1) (by omega) (by omega) dL_law_252 ?_
        refine cr_aload_n (pc := 253) C dL_law_253 rfl ?_
        refine cr_iload_n (pc := 254) C dL_law_254 rfl ?_
        refine cr_iconst (pc := 255) (v := nI 2) C dL_law_255 (by decide) ?_
        refine cr_iadd_n (pc := 256) C dL_law_256 ?_
        refine cr_sld (pc := 257) C X (k := i + 2) (by omega) (by omega) dL_law_257 ?_
        refine cr_callV (pc := 258) (rest := [.inl v]) C hm rfl gL_law_X4_writeCount rfl dL_law_258 rfl rfl hvX4_writeCount rfl ⟨rfl, rfl, Nat.le_of_ble_eq_true rfl, Nat.le_of_ble_eq_true rfl⟩ (hsum _) (fun v1 M2 hp => ?_)
        obtain ⟨rfl, hJ2⟩ := hp
        refine cr_icmp_eq_t (pc := 261) (tgt := 797) C dL_law_261 (by decide) rfl ?_
        exact nxt _ hJ2
      · refine cr_tIn (pc := 32) (tgt := 266) (off := 234) C dL_law_32 (by decide) (by decide) (by decide) (by decide) ?_
        obtain ⟨v, M1, hc, hm⟩ := st_read (x := (xs (i + 1))) (y := (xs (i + 2))) (w := (xs (i + 3))) hJ
        refine cr_aload_n (pc := 266) C dL_law_266 rfl ?_
        refine cr_aload_n (pc := 267) C dL_law_267 rfl ?_
        refine cr_iload_n (pc := 268) C dL_law_268 rfl ?_
        refine cr_iconst (pc := 269) (v := nI 1) C dL_law_269 (by decide) ?_
        refine cr_iadd_n (pc := 270) C dL_law_270 ?_
        refine cr_sld (pc := 271) C X (k := i + 1) (by omega) (by omega) dL_law_271 ?_
        refine cr_aload_n (pc := 272) C dL_law_272 rfl ?_
        refine cr_iload_n (pc := 273) C dL_law_273 rfl ?_
        refine cr_iconst (pc := 274) (v := nI 2) C dL_law_274 (by decide) ?_
        refine cr_iadd_n (pc := 275) C dL_law_275 ?_
        refine cr_sld (pc := 276) C X (k := i + 2) (by omega) (by omega) dL_law_276 ?_
        refine cr_aload_n (pc := 277) C dL_law_277 rfl ?_
        refine cr_iload_n (pc := 278) C dL_law_278 rfl ?_
        refine cr_iconst (pc := 279) (v := nI 3) C dL_law_279 (by decide) ?_
        refine cr_iadd_n (pc := 280) C dL_law_280 ?_
        refine cr_sld (pc := 281) C X (k := i + 3) (by omega) (by omega) dL_law_281 ?_
        refine cr_dV (pc := 282) C hc rfl gL_law_X3_read rfl dL_law_282 rfl rfl hvX3_read rfl ⟨rfl, rfl, Nat.le_of_ble_eq_true rfl, Nat.le_of_ble_eq_true rfl⟩ (Nat.le_of_ble_eq_true rfl) rfl ?_
        refine cr_aload_n (pc := 285) C dL_law_285 rfl ?_
        refine cr_aload_n (pc := 286) C dL_law_286 rfl ?_
        refine cr_iload_n (pc := 287) C dL_law_287 rfl ?_
        refine cr_iconst (pc := 288) (v := nI 1) C dL_law_288 (by decide) ?_
        refine cr_iadd_n (pc := 289) C dL_law_289 ?_
        refine cr_sld (pc := 290) C X (k := i + 1) (by omega) (by omega) dL_law_290 ?_
        refine cr_aload_n (pc := 291) C dL_law_291 rfl ?_
        refine cr_iload_n (pc := 292) C dL_law_292 rfl ?_
        refine cr_iconst (pc := 293) (v := nI 2) C dL_law_293 (by decide) ?_
        refine cr_iadd_n (pc := 294) C dL_law_294 ?_
        refine cr_sld (pc := 295) C X (k := i + 2) (by omega) (by omega) dL_law_295 ?_
        refine cr_aload_n (pc := 296) C dL_law_296 rfl ?_
        refine cr_iload_n (pc := 297) C dL_law_297 rfl ?_
        refine cr_iconst (pc := 298) (v := nI 3) C dL_law_298 (by decide) ?_
        refine cr_iadd_n (pc := 299) C dL_law_299 ?_
        refine cr_sld (pc := 300) C X (k := i + 3) (by omega) (by omega) dL_law_300 ?_
        refine cr_callV (pc := 301) (rest := [.inl v]) C hm rfl gL_law_X4_read rfl dL_law_301 rfl rfl hvX4_read rfl ⟨rfl, rfl, Nat.le_of_ble_eq_true rfl, Nat.le_of_ble_eq_true rfl⟩ (hsum _) (fun v1 M2 hp => ?_)
        obtain ⟨rfl, hJ2⟩ := hp
        refine cr_icmp_eq_t (pc := 304) (tgt := 797) C dL_law_304 (by decide) rfl ?_
        exact nxt _ hJ2
      · refine cr_tIn (pc := 32) (tgt := 309) (off := 277) C dL_law_32 (by decide) (by decide) (by decide) (by decide) ?_
        obtain ⟨v, M1, hc, hm⟩ := st_write (x := (xs (i + 1))) (y := (xs (i + 2))) (w := (xs (i + 3))) (q := (xs (i + 4))) hJ
        refine cr_aload_n (pc := 309) C dL_law_309 rfl ?_
        refine cr_aload_n (pc := 310) C dL_law_310 rfl ?_
        refine cr_iload_n (pc := 311) C dL_law_311 rfl ?_
        refine cr_iconst (pc := 312) (v := nI 1) C dL_law_312 (by decide) ?_
        refine cr_iadd_n (pc := 313) C dL_law_313 ?_
        refine cr_sld (pc := 314) C X (k := i + 1) (by omega) (by omega) dL_law_314 ?_
        refine cr_aload_n (pc := 315) C dL_law_315 rfl ?_
        refine cr_iload_n (pc := 316) C dL_law_316 rfl ?_
        refine cr_iconst (pc := 317) (v := nI 2) C dL_law_317 (by decide) ?_
        refine cr_iadd_n (pc := 318) C dL_law_318 ?_
        refine cr_sld (pc := 319) C X (k := i + 2) (by omega) (by omega) dL_law_319 ?_
        refine cr_aload_n (pc := 320) C dL_law_320 rfl ?_
        refine cr_iload_n (pc := 321) C dL_law_321 rfl ?_
        refine cr_iconst (pc := 322) (v := nI 3) C dL_law_322 (by decide) ?_
        refine cr_iadd_n (pc := 323) C dL_law_323 ?_
        refine cr_sld (pc := 324) C X (k := i + 3) (by omega) (by omega) dL_law_324 ?_
        refine cr_aload_n (pc := 325) C dL_law_325 rfl ?_
        refine cr_iload_n (pc := 326) C dL_law_326 rfl ?_
        refine cr_iconst (pc := 327) (v := nI 4) C dL_law_327 (by decide) ?_
        refine cr_iadd_n (pc := 328) C dL_law_328 ?_
        refine cr_sld (pc := 329) C X (k := i + 4) (by omega) (by omega) dL_law_329 ?_
        refine cr_dV (pc := 330) C hc rfl gL_law_X3_write rfl dL_law_330 rfl rfl hvX3_write rfl ⟨rfl, rfl, Nat.le_of_ble_eq_true rfl, Nat.le_of_ble_eq_true rfl⟩ (Nat.le_of_ble_eq_true rfl) rfl ?_
        refine cr_aload_n (pc := 333) C dL_law_333 rfl ?_
        refine cr_aload_n (pc := 334) C dL_law_334 rfl ?_
        refine cr_iload_n (pc := 335) C dL_law_335 rfl ?_
        refine cr_iconst (pc := 336) (v := nI 1) C dL_law_336 (by decide) ?_
        refine cr_iadd_n (pc := 337) C dL_law_337 ?_
        refine cr_sld (pc := 338) C X (k := i + 1) (by omega) (by omega) dL_law_338 ?_
        refine cr_aload_n (pc := 339) C dL_law_339 rfl ?_
        refine cr_iload_n (pc := 340) C dL_law_340 rfl ?_
        refine cr_iconst (pc := 341) (v := nI 2) C dL_law_341 (by decide) ?_
        refine cr_iadd_n (pc := 342) C dL_law_342 ?_
        refine cr_sld (pc := 343) C X (k := i + 2) (by omega) (by omega) dL_law_343 ?_
        refine cr_aload_n (pc := 344) C dL_law_344 rfl ?_
        refine cr_iload_n (pc := 345) C dL_law_345 rfl ?_
        refine cr_iconst (pc := 346) (v := nI 3) C dL_law_346 (by decide) ?_
        refine cr_iadd_n (pc := 347) C dL_law_347 ?_
        refine cr_sld (pc := 348) C X (k := i + 3) (by omega) (by omega) dL_law_348 ?_
        refine cr_aload_n (pc := 349) C dL_law_349 rfl ?_
        refine cr_iload_n (pc := 350) C dL_law_350 rfl ?_
        refine cr_iconst (pc := 351) (v := nI 4) C dL_law_351 (by decide) ?_
        refine cr_iadd_n (pc := 352) C dL_law_352 ?_
        refine cr_sld (pc := 353) C X (k := i + 4) (by omega) (by omega) dL_law_353 ?_
        refine cr_callV (pc := 354) (rest := [.inl v]) C hm rfl gL_law_X4_write rfl dL_law_354 rfl rfl hvX4_write rfl ⟨rfl, rfl, Nat.le_of_ble_eq_true rfl, Nat.le_of_ble_eq_true rfl⟩ (hsum _) (fun v1 M2 hp => ?_)
        obtain ⟨rfl, hJ2⟩ := hp
        refine cr_icmp_eq_t (pc := 357) (tgt := 797) C dL_law_357 (by decide) rfl ?_
        exact nxt _ hJ2
      · refine cr_tIn (pc := 32) (tgt := 362) (off := 330) C dL_law_32 (by decide) (by decide) (by decide) (by decide) ?_
        obtain ⟨v, M1, hc, hm⟩ := st_sync (x := (xs (i + 1))) (y := (xs (i + 2))) hJ
        refine cr_aload_n (pc := 362) C dL_law_362 rfl ?_
        refine cr_aload_n (pc := 363) C dL_law_363 rfl ?_
        refine cr_iload_n (pc := 364) C dL_law_364 rfl ?_
        refine cr_iconst (pc := 365) (v := nI 1) C dL_law_365 (by decide) ?_
        refine cr_iadd_n (pc := 366) C dL_law_366 ?_
        refine cr_sld (pc := 367) C X (k := i + 1) (by omega) (by omega) dL_law_367 ?_
        refine cr_aload_n (pc := 368) C dL_law_368 rfl ?_
        refine cr_iload_n (pc := 369) C dL_law_369 rfl ?_
        refine cr_iconst (pc := 370) (v := nI 2) C dL_law_370 (by decide) ?_
        refine cr_iadd_n (pc := 371) C dL_law_371 ?_
        refine cr_sld (pc := 372) C X (k := i + 2) (by omega) (by omega) dL_law_372 ?_
        refine cr_dV (pc := 373) C hc rfl gL_law_X3_sync rfl dL_law_373 rfl rfl hvX3_sync rfl ⟨rfl, rfl, Nat.le_of_ble_eq_true rfl, Nat.le_of_ble_eq_true rfl⟩ (Nat.le_of_ble_eq_true rfl) rfl ?_
        refine cr_aload_n (pc := 376) C dL_law_376 rfl ?_
        refine cr_aload_n (pc := 377) C dL_law_377 rfl ?_
        refine cr_iload_n (pc := 378) C dL_law_378 rfl ?_
        refine cr_iconst (pc := 379) (v := nI 1) C dL_law_379 (by decide) ?_
        refine cr_iadd_n (pc := 380) C dL_law_380 ?_
        refine cr_sld (pc := 381) C X (k := i + 1) (by omega) (by omega) dL_law_381 ?_
        refine cr_aload_n (pc := 382) C dL_law_382 rfl ?_
        refine cr_iload_n (pc := 383) C dL_law_383 rfl ?_
        refine cr_iconst (pc := 384) (v := nI 2) C dL_law_384 (by decide) ?_
        refine cr_iadd_n (pc := 385) C dL_law_385 ?_
        refine cr_sld (pc := 386) C X (k := i + 2) (by omega) (by omega) dL_law_386 ?_
        refine cr_callV (pc := 387) (rest := [.inl v]) C hm rfl gL_law_X4_sync rfl dL_law_387 rfl rfl hvX4_sync rfl ⟨rfl, rfl, Nat.le_of_ble_eq_true rfl, Nat.le_of_ble_eq_true rfl⟩ (hsum _) (fun v1 M2 hp => ?_)
        obtain ⟨rfl, hJ2⟩ := hp
        refine cr_icmp_eq_t (pc := 390) (tgt := 797) C dL_law_390 (by decide) rfl ?_
        exact nxt _ hJ2
      · refine cr_tIn (pc := 32) (tgt := 395) (off := 363) C dL_law_32 (by decide) (by decide) (by decide) (by decide) ?_
        obtain ⟨v, M1, hc, hm⟩ := st_readBreaches (x := (xs (i + 1))) (y := (xs (i + 2))) hJ
        refine cr_aload_n (pc := 395) C dL_law_395 rfl ?_
        refine cr_aload_n (pc := 396) C dL_law_396 rfl ?_
        refine cr_iload_n (pc := 397) C dL_law_397 rfl ?_
        refine cr_iconst (pc := 398) (v := nI 1) C dL_law_398 (by decide) ?_
        refine cr_iadd_n (pc := 399) C dL_law_399 ?_
        refine cr_sld (pc := 400) C X (k := i + 1) (by omega) (by omega) dL_law_400 ?_
        refine cr_aload_n (pc := 401) C dL_law_401 rfl ?_
        refine cr_iload_n (pc := 402) C dL_law_402 rfl ?_
        refine cr_iconst (pc := 403) (v := nI 2) C dL_law_403 (by decide) ?_
        refine cr_iadd_n (pc := 404) C dL_law_404 ?_
        refine cr_sld (pc := 405) C X (k := i + 2) (by omega) (by omega) dL_law_405 ?_
        refine cr_dV (pc := 406) C hc rfl gL_law_X3_readBreaches rfl dL_law_406 rfl rfl hvX3_readBreaches rfl ⟨rfl, rfl, Nat.le_of_ble_eq_true rfl, Nat.le_of_ble_eq_true rfl⟩ (Nat.le_of_ble_eq_true rfl) rfl ?_
        refine cr_aload_n (pc := 409) C dL_law_409 rfl ?_
        refine cr_aload_n (pc := 410) C dL_law_410 rfl ?_
        refine cr_iload_n (pc := 411) C dL_law_411 rfl ?_
        refine cr_iconst (pc := 412) (v := nI 1) C dL_law_412 (by decide) ?_
        refine cr_iadd_n (pc := 413) C dL_law_413 ?_
        refine cr_sld (pc := 414) C X (k := i + 1) (by omega) (by omega) dL_law_414 ?_
        refine cr_aload_n (pc := 415) C dL_law_415 rfl ?_
        refine cr_iload_n (pc := 416) C dL_law_416 rfl ?_
        refine cr_iconst (pc := 417) (v := nI 2) C dL_law_417 (by decide) ?_
        refine cr_iadd_n (pc := 418) C dL_law_418 ?_
        refine cr_sld (pc := 419) C X (k := i + 2) (by omega) (by omega) dL_law_419 ?_
        refine cr_callV (pc := 420) (rest := [.inl v]) C hm rfl gL_law_X4_readBreaches rfl dL_law_420 rfl rfl hvX4_readBreaches rfl ⟨rfl, rfl, Nat.le_of_ble_eq_true rfl, Nat.le_of_ble_eq_true rfl⟩ (hsum _) (fun v1 M2 hp => ?_)
        obtain ⟨rfl, hJ2⟩ := hp
        refine cr_icmp_eq_t (pc := 423) (tgt := 797) C dL_law_423 (by decide) rfl ?_
        exact nxt _ hJ2
      · refine cr_tIn (pc := 32) (tgt := 428) (off := 396) C dL_law_32 (by decide) (by decide) (by decide) (by decide) ?_
        obtain ⟨v, M1, hc, hm⟩ := st_writeBreaches (x := (xs (i + 1))) (y := (xs (i + 2))) hJ
        refine cr_aload_n (pc := 428) C dL_law_428 rfl ?_
        refine cr_aload_n (pc := 429) C dL_law_429 rfl ?_
        refine cr_iload_n (pc := 430) C dL_law_430 rfl ?_
        refine cr_iconst (pc := 431) (v := nI 1) C dL_law_431 (by decide) ?_
        refine cr_iadd_n (pc := 432) C dL_law_432 ?_
        refine cr_sld (pc := 433) C X (k := i + 1) (by omega) (by omega) dL_law_433 ?_
        refine cr_aload_n (pc := 434) C dL_law_434 rfl ?_
        refine cr_iload_n (pc := 435) C dL_law_435 rfl ?_
        refine cr_iconst (pc := 436) (v := nI 2) C dL_law_436 (by decide) ?_
        refine cr_iadd_n (pc := 437) C dL_law_437 ?_
        refine cr_sld (pc := 438) C X (k := i + 2) (by omega) (by omega) dL_law_438 ?_
        refine cr_dV (pc := 439) C hc rfl gL_law_X3_writeBreaches rfl dL_law_439 rfl rfl hvX3_writeBreaches rfl ⟨rfl, rfl, Nat.le_of_ble_eq_true rfl, Nat.le_of_ble_eq_true rfl⟩ (Nat.le_of_ble_eq_true rfl) rfl ?_
        refine cr_aload_n (pc := 442) C dL_law_442 rfl ?_
        refine cr_aload_n (pc := 443) C dL_law_443 rfl ?_
        refine cr_iload_n (pc := 444) C dL_law_444 rfl ?_
        refine cr_iconst (pc := 445) (v := nI 1) C dL_law_445 (by decide) ?_
        refine cr_iadd_n (pc := 446) C dL_law_446 ?_
        refine cr_sld (pc := 447) C X (k := i + 1) (by omega) (by omega) dL_law_447 ?_
        refine cr_aload_n (pc := 448) C dL_law_448 rfl ?_
        refine cr_iload_n (pc := 449) C dL_law_449 rfl ?_
        refine cr_iconst (pc := 450) (v := nI 2) C dL_law_450 (by decide) ?_
        refine cr_iadd_n (pc := 451) C dL_law_451 ?_
        refine cr_sld (pc := 452) C X (k := i + 2) (by omega) (by omega) dL_law_452 ?_
        refine cr_callV (pc := 453) (rest := [.inl v]) C hm rfl gL_law_X4_writeBreaches rfl dL_law_453 rfl rfl hvX4_writeBreaches rfl ⟨rfl, rfl, Nat.le_of_ble_eq_true rfl, Nat.le_of_ble_eq_true rfl⟩ (hsum _) (fun v1 M2 hp => ?_)
        obtain ⟨rfl, hJ2⟩ := hp
        refine cr_icmp_eq_t (pc := 456) (tgt := 797) C dL_law_456 (by decide) rfl ?_
        exact nxt _ hJ2
      · refine cr_tIn (pc := 32) (tgt := 461) (off := 429) C dL_law_32 (by decide) (by decide) (by decide) (by decide) ?_
        obtain ⟨v, M1, hc, hm⟩ := st_readableReplica (x := (xs (i + 1))) hJ
        refine cr_aload_n (pc := 461) C dL_law_461 rfl ?_
        refine cr_aload_n (pc := 462) C dL_law_462 rfl ?_
        refine cr_iload_n (pc := 463) C dL_law_463 rfl ?_
        refine cr_iconst (pc := 464) (v := nI 1) C dL_law_464 (by decide) ?_
        refine cr_iadd_n (pc := 465) C dL_law_465 ?_
        refine cr_sld (pc := 466) C X (k := i + 1) (by omega) (by omega) dL_law_466 ?_
        refine cr_dV (pc := 467) C hc rfl gL_law_X3_readableReplica rfl dL_law_467 rfl rfl hvX3_readableReplica rfl ⟨rfl, rfl, Nat.le_of_ble_eq_true rfl, Nat.le_of_ble_eq_true rfl⟩ (Nat.le_of_ble_eq_true rfl) rfl ?_
        refine cr_aload_n (pc := 470) C dL_law_470 rfl ?_
        refine cr_aload_n (pc := 471) C dL_law_471 rfl ?_
        refine cr_iload_n (pc := 472) C dL_law_472 rfl ?_
        refine cr_iconst (pc := 473) (v := nI 1) C dL_law_473 (by decide) ?_
        refine cr_iadd_n (pc := 474) C dL_law_474 ?_
        refine cr_sld (pc := 475) C X (k := i + 1) (by omega) (by omega) dL_law_475 ?_
        refine cr_callV (pc := 476) (rest := [.inl v]) C hm rfl gL_law_X4_readableReplica rfl dL_law_476 rfl rfl hvX4_readableReplica rfl ⟨rfl, rfl, Nat.le_of_ble_eq_true rfl, Nat.le_of_ble_eq_true rfl⟩ (hsum _) (fun v1 M2 hp => ?_)
        obtain ⟨rfl, hJ2⟩ := hp
        refine cr_icmp_eq_t (pc := 479) (tgt := 797) C dL_law_479 (by decide) rfl ?_
        exact nxt _ hJ2
      · refine cr_tIn (pc := 32) (tgt := 484) (off := 452) C dL_law_32 (by decide) (by decide) (by decide) (by decide) ?_
        obtain ⟨v, M1, hc, hm⟩ := st_writableReplica (x := (xs (i + 1))) hJ
        refine cr_aload_n (pc := 484) C dL_law_484 rfl ?_
        refine cr_aload_n (pc := 485) C dL_law_485 rfl ?_
        refine cr_iload_n (pc := 486) C dL_law_486 rfl ?_
        refine cr_iconst (pc := 487) (v := nI 1) C dL_law_487 (by decide) ?_
        refine cr_iadd_n (pc := 488) C dL_law_488 ?_
        refine cr_sld (pc := 489) C X (k := i + 1) (by omega) (by omega) dL_law_489 ?_
        refine cr_dV (pc := 490) C hc rfl gL_law_X3_writableReplica rfl dL_law_490 rfl rfl hvX3_writableReplica rfl ⟨rfl, rfl, Nat.le_of_ble_eq_true rfl, Nat.le_of_ble_eq_true rfl⟩ (Nat.le_of_ble_eq_true rfl) rfl ?_
        refine cr_aload_n (pc := 493) C dL_law_493 rfl ?_
        refine cr_aload_n (pc := 494) C dL_law_494 rfl ?_
        refine cr_iload_n (pc := 495) C dL_law_495 rfl ?_
        refine cr_iconst (pc := 496) (v := nI 1) C dL_law_496 (by decide) ?_
        refine cr_iadd_n (pc := 497) C dL_law_497 ?_
        refine cr_sld (pc := 498) C X (k := i + 1) (by omega) (by omega) dL_law_498 ?_
        refine cr_callV (pc := 499) (rest := [.inl v]) C hm rfl gL_law_X4_writableReplica rfl dL_law_499 rfl rfl hvX4_writableReplica rfl ⟨rfl, rfl, Nat.le_of_ble_eq_true rfl, Nat.le_of_ble_eq_true rfl⟩ (hsum _) (fun v1 M2 hp => ?_)
        obtain ⟨rfl, hJ2⟩ := hp
        refine cr_icmp_eq_t (pc := 502) (tgt := 797) C dL_law_502 (by decide) rfl ?_
        exact nxt _ hJ2
      · refine cr_tIn (pc := 32) (tgt := 507) (off := 475) C dL_law_32 (by decide) (by decide) (by decide) (by decide) ?_
        obtain ⟨v, M1, hc, hm⟩ := st_syncsForRead (x := (xs (i + 1))) (y := (xs (i + 2))) hJ
        refine cr_aload_n (pc := 507) C dL_law_507 rfl ?_
        refine cr_aload_n (pc := 508) C dL_law_508 rfl ?_
        refine cr_iload_n (pc := 509) C dL_law_509 rfl ?_
        refine cr_iconst (pc := 510) (v := nI 1) C dL_law_510 (by decide) ?_
        refine cr_iadd_n (pc := 511) C dL_law_511 ?_
        refine cr_sld (pc := 512) C X (k := i + 1) (by omega) (by omega) dL_law_512 ?_
        refine cr_aload_n (pc := 513) C dL_law_513 rfl ?_
        refine cr_iload_n (pc := 514) C dL_law_514 rfl ?_
        refine cr_iconst (pc := 515) (v := nI 2) C dL_law_515 (by decide) ?_
        refine cr_iadd_n (pc := 516) C dL_law_516 ?_
        refine cr_sld (pc := 517) C X (k := i + 2) (by omega) (by omega) dL_law_517 ?_
        refine cr_dV (pc := 518) C hc rfl gL_law_X3_syncsForRead rfl dL_law_518 rfl rfl hvX3_syncsForRead rfl ⟨rfl, rfl, Nat.le_of_ble_eq_true rfl, Nat.le_of_ble_eq_true rfl⟩ (Nat.le_of_ble_eq_true rfl) rfl ?_
        refine cr_aload_n (pc := 521) C dL_law_521 rfl ?_
        refine cr_aload_n (pc := 522) C dL_law_522 rfl ?_
        refine cr_iload_n (pc := 523) C dL_law_523 rfl ?_
        refine cr_iconst (pc := 524) (v := nI 1) C dL_law_524 (by decide) ?_
        refine cr_iadd_n (pc := 525) C dL_law_525 ?_
        refine cr_sld (pc := 526) C X (k := i + 1) (by omega) (by omega) dL_law_526 ?_
        refine cr_aload_n (pc := 527) C dL_law_527 rfl ?_
        refine cr_iload_n (pc := 528) C dL_law_528 rfl ?_
        refine cr_iconst (pc := 529) (v := nI 2) C dL_law_529 (by decide) ?_
        refine cr_iadd_n (pc := 530) C dL_law_530 ?_
        refine cr_sld (pc := 531) C X (k := i + 2) (by omega) (by omega) dL_law_531 ?_
        refine cr_callV (pc := 532) (rest := [.inl v]) C hm rfl gL_law_X4_syncsForRead rfl dL_law_532 rfl rfl hvX4_syncsForRead rfl ⟨rfl, rfl, Nat.le_of_ble_eq_true rfl, Nat.le_of_ble_eq_true rfl⟩ (hsum _) (fun v1 M2 hp => ?_)
        obtain ⟨rfl, hJ2⟩ := hp
        refine cr_icmp_eq_t (pc := 535) (tgt := 797) C dL_law_535 (by decide) rfl ?_
        exact nxt _ hJ2
      · refine cr_tIn (pc := 32) (tgt := 540) (off := 508) C dL_law_32 (by decide) (by decide) (by decide) (by decide) ?_
        obtain ⟨v, M1, hc, hm⟩ := st_count (x := (xs (i + 1))) (y := (xs (i + 2))) hJ
        refine cr_aload_n (pc := 540) C dL_law_540 rfl ?_
        refine cr_aload_n (pc := 541) C dL_law_541 rfl ?_
        refine cr_iload_n (pc := 542) C dL_law_542 rfl ?_
        refine cr_iconst (pc := 543) (v := nI 1) C dL_law_543 (by decide) ?_
        refine cr_iadd_n (pc := 544) C dL_law_544 ?_
        refine cr_sld (pc := 545) C X (k := i + 1) (by omega) (by omega) dL_law_545 ?_
        refine cr_aload_n (pc := 546) C dL_law_546 rfl ?_
        refine cr_iload_n (pc := 547) C dL_law_547 rfl ?_
        refine cr_iconst (pc := 548) (v := nI 2) C dL_law_548 (by decide) ?_
        refine cr_iadd_n (pc := 549) C dL_law_549 ?_
        refine cr_sld (pc := 550) C X (k := i + 2) (by omega) (by omega) dL_law_550 ?_
        refine cr_dV (pc := 551) C hc rfl gL_law_X3_count rfl dL_law_551 rfl rfl hvX3_count rfl ⟨rfl, rfl, Nat.le_of_ble_eq_true rfl, Nat.le_of_ble_eq_true rfl⟩ (Nat.le_of_ble_eq_true rfl) rfl ?_
        refine cr_aload_n (pc := 554) C dL_law_554 rfl ?_
        refine cr_aload_n (pc := 555) C dL_law_555 rfl ?_
        refine cr_iload_n (pc := 556) C dL_law_556 rfl ?_
        refine cr_iconst (pc := 557) (v := nI 1) C dL_law_557 (by decide) ?_
        refine cr_iadd_n (pc := 558) C dL_law_558 ?_
        refine cr_sld (pc := 559) C X (k := i + 1) (by omega) (by omega) dL_law_559 ?_
        refine cr_aload_n (pc := 560) C dL_law_560 rfl ?_
        refine cr_iload_n (pc := 561) C dL_law_561 rfl ?_
        refine cr_iconst (pc := 562) (v := nI 2) C dL_law_562 (by decide) ?_
        refine cr_iadd_n (pc := 563) C dL_law_563 ?_
        refine cr_sld (pc := 564) C X (k := i + 2) (by omega) (by omega) dL_law_564 ?_
        refine cr_callV (pc := 565) (rest := [.inl v]) C hm rfl gL_law_X4_count rfl dL_law_565 rfl rfl hvX4_count rfl ⟨rfl, rfl, Nat.le_of_ble_eq_true rfl, Nat.le_of_ble_eq_true rfl⟩ (hsum _) (fun v1 M2 hp => ?_)
        obtain ⟨rfl, hJ2⟩ := hp
        refine cr_icmp_eq_t (pc := 568) (tgt := 797) C dL_law_568 (by decide) rfl ?_
        exact nxt _ hJ2
      · refine cr_tIn (pc := 32) (tgt := 573) (off := 541) C dL_law_32 (by decide) (by decide) (by decide) (by decide) ?_
        obtain ⟨v, M1, hc, hm⟩ := st_clock (x := (xs (i + 1))) hJ
        refine cr_aload_n (pc := 573) C dL_law_573 rfl ?_
        refine cr_aload_n (pc := 574) C dL_law_574 rfl ?_
        refine cr_iload_n (pc := 575) C dL_law_575 rfl ?_
        refine cr_iconst (pc := 576) (v := nI 1) C dL_law_576 (by decide) ?_
        refine cr_iadd_n (pc := 577) C dL_law_577 ?_
        refine cr_sld (pc := 578) C X (k := i + 1) (by omega) (by omega) dL_law_578 ?_
        refine cr_dV (pc := 579) C hc rfl gL_law_X3_clock rfl dL_law_579 rfl rfl hvX3_clock rfl ⟨rfl, rfl, Nat.le_of_ble_eq_true rfl, Nat.le_of_ble_eq_true rfl⟩ (Nat.le_of_ble_eq_true rfl) rfl ?_
        refine cr_aload_n (pc := 582) C dL_law_582 rfl ?_
        refine cr_aload_n (pc := 583) C dL_law_583 rfl ?_
        refine cr_iload_n (pc := 584) C dL_law_584 rfl ?_
        refine cr_iconst (pc := 585) (v := nI 1) C dL_law_585 (by decide) ?_
        refine cr_iadd_n (pc := 586) C dL_law_586 ?_
        refine cr_sld (pc := 587) C X (k := i + 1) (by omega) (by omega) dL_law_587 ?_
        refine cr_callV (pc := 588) (rest := [.inl v]) C hm rfl gL_law_X4_clock rfl dL_law_588 rfl rfl hvX4_clock rfl ⟨rfl, rfl, Nat.le_of_ble_eq_true rfl, Nat.le_of_ble_eq_true rfl⟩ (hsum _) (fun v1 M2 hp => ?_)
        obtain ⟨rfl, hJ2⟩ := hp
        refine cr_icmp_eq_t (pc := 591) (tgt := 797) C dL_law_591 (by decide) rfl ?_
        exact nxt _ hJ2
      · refine cr_tIn (pc := 32) (tgt := 596) (off := 564) C dL_law_32 (by decide) (by decide) (by decide) (by decide) ?_
        obtain ⟨v, M1, hc, hm⟩ := st_peek (x := (xs (i + 1))) (y := (xs (i + 2))) hJ
        refine cr_aload_n (pc := 596) C dL_law_596 rfl ?_
        refine cr_aload_n (pc := 597) C dL_law_597 rfl ?_
        refine cr_iload_n (pc := 598) C dL_law_598 rfl ?_
        refine cr_iconst (pc := 599) (v := nI 1) C dL_law_599 (by decide) ?_
        refine cr_iadd_n (pc := 600) C dL_law_600 ?_
        refine cr_sld (pc := 601) C X (k := i + 1) (by omega) (by omega) dL_law_601 ?_
        refine cr_aload_n (pc := 602) C dL_law_602 rfl ?_
        refine cr_iload_n (pc := 603) C dL_law_603 rfl ?_
        refine cr_iconst (pc := 604) (v := nI 2) C dL_law_604 (by decide) ?_
        refine cr_iadd_n (pc := 605) C dL_law_605 ?_
        refine cr_sld (pc := 606) C X (k := i + 2) (by omega) (by omega) dL_law_606 ?_
        refine cr_dV (pc := 607) C hc rfl gL_law_X3_peek rfl dL_law_607 rfl rfl hvX3_peek rfl ⟨rfl, rfl, Nat.le_of_ble_eq_true rfl, Nat.le_of_ble_eq_true rfl⟩ (Nat.le_of_ble_eq_true rfl) rfl ?_
        refine cr_aload_n (pc := 610) C dL_law_610 rfl ?_
        refine cr_aload_n (pc := 611) C dL_law_611 rfl ?_
        refine cr_iload_n (pc := 612) C dL_law_612 rfl ?_
        refine cr_iconst (pc := 613) (v := nI 1) C dL_law_613 (by decide) ?_
        refine cr_iadd_n (pc := 614) C dL_law_614 ?_
        refine cr_sld (pc := 615) C X (k := i + 1) (by omega) (by omega) dL_law_615 ?_
        refine cr_aload_n (pc := 616) C dL_law_616 rfl ?_
        refine cr_iload_n (pc := 617) C dL_law_617 rfl ?_
        refine cr_iconst (pc := 618) (v := nI 2) C dL_law_618 (by decide) ?_
        refine cr_iadd_n (pc := 619) C dL_law_619 ?_
        refine cr_sld (pc := 620) C X (k := i + 2) (by omega) (by omega) dL_law_620 ?_
        refine cr_callV (pc := 621) (rest := [.inl v]) C hm rfl gL_law_X4_peek rfl dL_law_621 rfl rfl hvX4_peek rfl ⟨rfl, rfl, Nat.le_of_ble_eq_true rfl, Nat.le_of_ble_eq_true rfl⟩ (hsum _) (fun v1 M2 hp => ?_)
        obtain ⟨rfl, hJ2⟩ := hp
        refine cr_icmp_eq_t (pc := 624) (tgt := 797) C dL_law_624 (by decide) rfl ?_
        exact nxt _ hJ2
      · refine cr_tIn (pc := 32) (tgt := 629) (off := 597) C dL_law_32 (by decide) (by decide) (by decide) (by decide) ?_
        obtain ⟨v, M1, hc, hm⟩ := st_compare (x := (xs (i + 1))) (y := (xs (i + 2))) hJ
        refine cr_aload_n (pc := 629) C dL_law_629 rfl ?_
        refine cr_aload_n (pc := 630) C dL_law_630 rfl ?_
        refine cr_iload_n (pc := 631) C dL_law_631 rfl ?_
        refine cr_iconst (pc := 632) (v := nI 1) C dL_law_632 (by decide) ?_
        refine cr_iadd_n (pc := 633) C dL_law_633 ?_
        refine cr_sld (pc := 634) C X (k := i + 1) (by omega) (by omega) dL_law_634 ?_
        refine cr_aload_n (pc := 635) C dL_law_635 rfl ?_
        refine cr_iload_n (pc := 636) C dL_law_636 rfl ?_
        refine cr_iconst (pc := 637) (v := nI 2) C dL_law_637 (by decide) ?_
        refine cr_iadd_n (pc := 638) C dL_law_638 ?_
        refine cr_sld (pc := 639) C X (k := i + 2) (by omega) (by omega) dL_law_639 ?_
        refine cr_dV (pc := 640) C hc rfl gL_law_X3_compare rfl dL_law_640 rfl rfl hvX3_compare rfl ⟨rfl, rfl, Nat.le_of_ble_eq_true rfl, Nat.le_of_ble_eq_true rfl⟩ (Nat.le_of_ble_eq_true rfl) rfl ?_
        refine cr_aload_n (pc := 643) C dL_law_643 rfl ?_
        refine cr_aload_n (pc := 644) C dL_law_644 rfl ?_
        refine cr_iload_n (pc := 645) C dL_law_645 rfl ?_
        refine cr_iconst (pc := 646) (v := nI 1) C dL_law_646 (by decide) ?_
        refine cr_iadd_n (pc := 647) C dL_law_647 ?_
        refine cr_sld (pc := 648) C X (k := i + 1) (by omega) (by omega) dL_law_648 ?_
        refine cr_aload_n (pc := 649) C dL_law_649 rfl ?_
        refine cr_iload_n (pc := 650) C dL_law_650 rfl ?_
        refine cr_iconst (pc := 651) (v := nI 2) C dL_law_651 (by decide) ?_
        refine cr_iadd_n (pc := 652) C dL_law_652 ?_
        refine cr_sld (pc := 653) C X (k := i + 2) (by omega) (by omega) dL_law_653 ?_
        refine cr_callV (pc := 654) (rest := [.inl v]) C hm rfl gL_law_X4_compare rfl dL_law_654 rfl rfl hvX4_compare rfl ⟨rfl, rfl, Nat.le_of_ble_eq_true rfl, Nat.le_of_ble_eq_true rfl⟩ (hsum _) (fun v1 M2 hp => ?_)
        obtain ⟨rfl, hJ2⟩ := hp
        refine cr_icmp_eq_t (pc := 657) (tgt := 797) C dL_law_657 (by decide) rfl ?_
        exact nxt _ hJ2
      · refine cr_tIn (pc := 32) (tgt := 662) (off := 630) C dL_law_32 (by decide) (by decide) (by decide) (by decide) ?_
        obtain ⟨v, M1, hc, hm⟩ := st_breaches (x := (xs (i + 1))) hJ
        refine cr_aload_n (pc := 662) C dL_law_662 rfl ?_
        refine cr_aload_n (pc := 663) C dL_law_663 rfl ?_
        refine cr_iload_n (pc := 664) C dL_law_664 rfl ?_
        refine cr_iconst (pc := 665) (v := nI 1) C dL_law_665 (by decide) ?_
        refine cr_iadd_n (pc := 666) C dL_law_666 ?_
        refine cr_sld (pc := 667) C X (k := i + 1) (by omega) (by omega) dL_law_667 ?_
        refine cr_dV (pc := 668) C hc rfl gL_law_X3_breaches rfl dL_law_668 rfl rfl hvX3_breaches rfl ⟨rfl, rfl, Nat.le_of_ble_eq_true rfl, Nat.le_of_ble_eq_true rfl⟩ (Nat.le_of_ble_eq_true rfl) rfl ?_
        refine cr_aload_n (pc := 671) C dL_law_671 rfl ?_
        refine cr_aload_n (pc := 672) C dL_law_672 rfl ?_
        refine cr_iload_n (pc := 673) C dL_law_673 rfl ?_
        refine cr_iconst (pc := 674) (v := nI 1) C dL_law_674 (by decide) ?_
        refine cr_iadd_n (pc := 675) C dL_law_675 ?_
        refine cr_sld (pc := 676) C X (k := i + 1) (by omega) (by omega) dL_law_676 ?_
        refine cr_callV (pc := 677) (rest := [.inl v]) C hm rfl gL_law_X4_breaches rfl dL_law_677 rfl rfl hvX4_breaches rfl ⟨rfl, rfl, Nat.le_of_ble_eq_true rfl, Nat.le_of_ble_eq_true rfl⟩ (hsum _) (fun v1 M2 hp => ?_)
        obtain ⟨rfl, hJ2⟩ := hp
        refine cr_icmp_eq_t (pc := 680) (tgt := 797) C dL_law_680 (by decide) rfl ?_
        exact nxt _ hJ2
      · refine cr_tIn (pc := 32) (tgt := 685) (off := 653) C dL_law_32 (by decide) (by decide) (by decide) (by decide) ?_
        obtain ⟨v, M1, hc, hm⟩ := st_append (x := (xs (i + 1))) hJ
        refine cr_aload_n (pc := 685) C dL_law_685 rfl ?_
        refine cr_aload_n (pc := 686) C dL_law_686 rfl ?_
        refine cr_iload_n (pc := 687) C dL_law_687 rfl ?_
        refine cr_iconst (pc := 688) (v := nI 1) C dL_law_688 (by decide) ?_
        refine cr_iadd_n (pc := 689) C dL_law_689 ?_
        refine cr_sld (pc := 690) C X (k := i + 1) (by omega) (by omega) dL_law_690 ?_
        refine cr_dV (pc := 691) C hc rfl gL_law_X3_append rfl dL_law_691 rfl rfl hvX3_append rfl ⟨rfl, rfl, Nat.le_of_ble_eq_true rfl, Nat.le_of_ble_eq_true rfl⟩ (Nat.le_of_ble_eq_true rfl) rfl ?_
        refine cr_aload_n (pc := 694) C dL_law_694 rfl ?_
        refine cr_aload_n (pc := 695) C dL_law_695 rfl ?_
        refine cr_iload_n (pc := 696) C dL_law_696 rfl ?_
        refine cr_iconst (pc := 697) (v := nI 1) C dL_law_697 (by decide) ?_
        refine cr_iadd_n (pc := 698) C dL_law_698 ?_
        refine cr_sld (pc := 699) C X (k := i + 1) (by omega) (by omega) dL_law_699 ?_
        refine cr_callV (pc := 700) (rest := [.inl v]) C hm rfl gL_law_X4_append rfl dL_law_700 rfl rfl hvX4_append rfl ⟨rfl, rfl, Nat.le_of_ble_eq_true rfl, Nat.le_of_ble_eq_true rfl⟩ (hsum _) (fun v1 M2 hp => ?_)
        obtain ⟨rfl, hJ2⟩ := hp
        refine cr_icmp_eq_t (pc := 703) (tgt := 797) C dL_law_703 (by decide) rfl ?_
        exact nxt _ hJ2
      · refine cr_tIn (pc := 32) (tgt := 708) (off := 676) C dL_law_32 (by decide) (by decide) (by decide) (by decide) ?_
        obtain ⟨v, M1, hc, hm⟩ := st_clearText  hJ
        refine cr_aload_n (pc := 708) C dL_law_708 rfl ?_
        refine cr_dV (pc := 709) C hc rfl gL_law_X3_clearText rfl dL_law_709 rfl rfl hvX3_clearText rfl ⟨rfl, rfl, Nat.le_of_ble_eq_true rfl, Nat.le_of_ble_eq_true rfl⟩ (Nat.le_of_ble_eq_true rfl) rfl ?_
        refine cr_aload_n (pc := 712) C dL_law_712 rfl ?_
        refine cr_callV (pc := 713) (rest := [.inl v]) C hm rfl gL_law_X4_clearText rfl dL_law_713 rfl rfl hvX4_clearText rfl ⟨rfl, rfl, Nat.le_of_ble_eq_true rfl, Nat.le_of_ble_eq_true rfl⟩ (hsum _) (fun v1 M2 hp => ?_)
        obtain ⟨rfl, hJ2⟩ := hp
        refine cr_icmp_eq_t (pc := 716) (tgt := 797) C dL_law_716 (by decide) rfl ?_
        exact nxt _ hJ2
      · refine cr_tIn (pc := 32) (tgt := 721) (off := 689) C dL_law_32 (by decide) (by decide) (by decide) (by decide) ?_
        obtain ⟨v, M1, hc, hm⟩ := st_execute  hJ
        refine cr_aload_n (pc := 721) C dL_law_721 rfl ?_
        refine cr_dV (pc := 722) C hc rfl gL_law_X3_execute rfl dL_law_722 rfl rfl hvX3_execute rfl ⟨rfl, rfl, Nat.le_of_ble_eq_true rfl, Nat.le_of_ble_eq_true rfl⟩ (Nat.le_of_ble_eq_true rfl) rfl ?_
        refine cr_aload_n (pc := 725) C dL_law_725 rfl ?_
        refine cr_callV (pc := 726) (rest := [.inl v]) C hm rfl gL_law_X4_execute rfl dL_law_726 rfl rfl hvX4_execute rfl ⟨rfl, rfl, Nat.le_of_ble_eq_true rfl, Nat.le_of_ble_eq_true rfl⟩ (hsum _) (fun v1 M2 hp => ?_)
        obtain ⟨rfl, hJ2⟩ := hp
        refine cr_icmp_eq_t (pc := 729) (tgt := 797) C dL_law_729 (by decide) rfl ?_
        exact nxt _ hJ2
      · refine cr_tIn (pc := 32) (tgt := 734) (off := 702) C dL_law_32 (by decide) (by decide) (by decide) (by decide) ?_
        obtain ⟨v, M1, hc, hm⟩ := st_undo  hJ
        refine cr_aload_n (pc := 734) C dL_law_734 rfl ?_
        refine cr_dV (pc := 735) C hc rfl gL_law_X3_undo rfl dL_law_735 rfl rfl hvX3_undo rfl ⟨rfl, rfl, Nat.le_of_ble_eq_true rfl, Nat.le_of_ble_eq_true rfl⟩ (Nat.le_of_ble_eq_true rfl) rfl ?_
        refine cr_aload_n (pc := 738) C dL_law_738 rfl ?_
        refine cr_callV (pc := 739) (rest := [.inl v]) C hm rfl gL_law_X4_undo rfl dL_law_739 rfl rfl hvX4_undo rfl ⟨rfl, rfl, Nat.le_of_ble_eq_true rfl, Nat.le_of_ble_eq_true rfl⟩ (hsum _) (fun v1 M2 hp => ?_)
        obtain ⟨rfl, hJ2⟩ := hp
        refine cr_icmp_eq_t (pc := 742) (tgt := 797) C dL_law_742 (by decide) rfl ?_
        exact nxt _ hJ2
      · refine cr_tIn (pc := 32) (tgt := 747) (off := 715) C dL_law_32 (by decide) (by decide) (by decide) (by decide) ?_
        obtain ⟨v, M1, hc, hm⟩ := st_errorCount (x := (xs (i + 1))) hJ
        refine cr_aload_n (pc := 747) C dL_law_747 rfl ?_
        refine cr_aload_n (pc := 748) C dL_law_748 rfl ?_
        refine cr_iload_n (pc := 749) C dL_law_749 rfl ?_
        refine cr_iconst (pc := 750) (v := nI 1) C dL_law_750 (by decide) ?_
        refine cr_iadd_n (pc := 751) C dL_law_751 ?_
        refine cr_sld (pc := 752) C X (k := i + 1) (by omega) (by omega) dL_law_752 ?_
        refine cr_dV (pc := 753) C hc rfl gL_law_X3_errorCount rfl dL_law_753 rfl rfl hvX3_errorCount rfl ⟨rfl, rfl, Nat.le_of_ble_eq_true rfl, Nat.le_of_ble_eq_true rfl⟩ (Nat.le_of_ble_eq_true rfl) rfl ?_
        refine cr_aload_n (pc := 756) C dL_law_756 rfl ?_
        refine cr_aload_n (pc := 757) C dL_law_757 rfl ?_
        refine cr_iload_n (pc := 758) C dL_law_758 rfl ?_
        refine cr_iconst (pc := 759) (v := nI 1) C dL_law_759 (by decide) ?_
        refine cr_iadd_n (pc := 760) C dL_law_760 ?_
        refine cr_sld (pc := 761) C X (k := i + 1) (by omega) (by omega) dL_law_761 ?_
        refine cr_callV (pc := 762) (rest := [.inl v]) C hm rfl gL_law_X4_errorCount rfl dL_law_762 rfl rfl hvX4_errorCount rfl ⟨rfl, rfl, Nat.le_of_ble_eq_true rfl, Nat.le_of_ble_eq_true rfl⟩ (hsum _) (fun v1 M2 hp => ?_)
        obtain ⟨rfl, hJ2⟩ := hp
        refine cr_icmp_eq_t (pc := 765) (tgt := 797) C dL_law_765 (by decide) rfl ?_
        exact nxt _ hJ2
      · refine cr_tIn (pc := 32) (tgt := 770) (off := 738) C dL_law_32 (by decide) (by decide) (by decide) (by decide) ?_
        obtain ⟨v, M1, hc, hm⟩ := st_writes  hJ
        refine cr_aload_n (pc := 770) C dL_law_770 rfl ?_
        refine cr_dV (pc := 771) C hc rfl gL_law_X3_writes rfl dL_law_771 rfl rfl hvX3_writes rfl ⟨rfl, rfl, Nat.le_of_ble_eq_true rfl, Nat.le_of_ble_eq_true rfl⟩ (Nat.le_of_ble_eq_true rfl) rfl ?_
        refine cr_aload_n (pc := 774) C dL_law_774 rfl ?_
        refine cr_callV (pc := 775) (rest := [.inl v]) C hm rfl gL_law_X4_writes rfl dL_law_775 rfl rfl hvX4_writes rfl ⟨rfl, rfl, Nat.le_of_ble_eq_true rfl, Nat.le_of_ble_eq_true rfl⟩ (hsum _) (fun v1 M2 hp => ?_)
        obtain ⟨rfl, hJ2⟩ := hp
        refine cr_icmp_eq_t (pc := 778) (tgt := 797) C dL_law_778 (by decide) rfl ?_
        exact nxt _ hJ2
      · refine cr_tIn (pc := 32) (tgt := 783) (off := 751) C dL_law_32 (by decide) (by decide) (by decide) (by decide) ?_
        obtain ⟨v, M1, hc, hm⟩ := st_digest  hJ
        refine cr_aload_n (pc := 783) C dL_law_783 rfl ?_
        refine cr_dV (pc := 784) C hc rfl gL_law_X3_digest rfl dL_law_784 rfl rfl hvX3_digest rfl ⟨rfl, rfl, Nat.le_of_ble_eq_true rfl, Nat.le_of_ble_eq_true rfl⟩ (Nat.le_of_ble_eq_true rfl) rfl ?_
        refine cr_aload_n (pc := 787) C dL_law_787 rfl ?_
        refine cr_callV (pc := 788) (rest := [.inr (.inl v)]) C hm rfl gL_law_X4_digest rfl dL_law_788 rfl rfl hvX4_digest rfl ⟨rfl, rfl, Nat.le_of_ble_eq_true rfl, Nat.le_of_ble_eq_true rfl⟩ (hsum _) (fun v1 M2 hp => ?_)
        obtain ⟨rfl, hJ2⟩ := hp
        refine cr_lcmp (pc := 791) C dL_law_791 ?_
        refine cr_if_eq_t (pc := 792) (tgt := 797) C dL_law_792 (by decide) ((lg_cmp_eq _ _).mpr rfl) ?_
        exact nxt _ hJ2
      · refine cr_tOut (pc := 32) (tgt := 797) C dL_law_32 (Or.inr (by rw [nI_toInt (by omega)]; omega)) (by decide) ?_
        exact nxt _ hJ
    · refine cr_icmp_gt_t (pc := 23) (tgt := 803) C dL_law_23 (by decide) ?_ ?_
      · rcases Nat.lt_or_ge L 5 with hL5 | hL5
        · exact Int32.lt_of_lt_of_le (pk_sneg (by omega) hL5) (nI_pos' (by omega))
        · rw [pk_sub hL5]; exact nI_lt (by omega) (by omega)
      · refine cr_iconst (pc := 803) (v := nI 1) C dL_law_803 (by decide) ?_
        exact hret _ _
