/-! ===== calls with one answer ===== -/
def cg_D (y : MethodName) (ws : List Cond) (rm : Room) (as : List cg_V) (M : cg_M) (v : Option cg_V) (M1 : cg_M) : Prop := cg_S y ws rm as M (fun v' M' => v' = v ∧ M' = M1)
section CGD
variable {E : cg_E} {cc : ByteArray} {nL : Nat} {own : String} {Ts : List Cond} {rm : Room} {M M1 : cg_M} {pc : Nat} {ls : List (Option cg_V)} {rest st : List cg_V} {v : Option cg_V}
theorem cr_dV (C : cg_C E cc nL own Ts rm) {y : MethodName} {ws ws' : List Cond} {rm' : Room} {q : cg_L} {as : List cg_V} {index maxL n cN : Nat} {bytes : ByteArray} {ret : Option FieldType} {st2 : List cg_V} (hSp : cg_D y ws rm' (.inr (.inr q) :: as) M v M1) (hst : st = as.reverse ++ .inr (.inr q) :: rest) (hG : GoodIn Ts (wsV own index (cg_T cN).1 y ws)) (hw : ws = Cond.code y bytes maxL ret :: ws') (d : decode cc pc = .ok (.invokevirtual index, 3)) (hq : cg_ok q = true) (ho : cg_oi q = some cN)
    (hd : y.cls = (cg_T cN).1 ∧ y.cls ≠ "java/lang/invoke/MethodHandle" ∧ y.cls ≠ "java/lang/invoke/VarHandle" ∧ (parseMethodDescriptor y.desc).map (fun d => d.parameters.length) = some n) (hn : as.length = n) (hr : rm'.cells = 0 ∧ rm'.slots = 0 ∧ rm'.frames + 1 ≤ rm.frames ∧ 8 + (maxL + 11) + rm'.locals ≤ rm.locals) (hsum : (rest.map fun v => if cg_two v then 2 else 1).sum ≤ 8) (hst2 : v.toList ++ rest = st2)
    (K : cg_W E M1 (pc + 3) ls st2) : cg_W E M pc ls st :=
  cr_callV C hSp hst hG hw d hq ho hd hn hr hsum (fun v' M' h => by obtain ⟨rfl, rfl⟩ := h; rw [hst2]; exact K)
theorem cr_dS (C : cg_C E cc nL own Ts rm) {y : MethodName} {ws ws' : List Cond} {rm' : Room} {as : List cg_V} {index maxL n : Nat} {bytes : ByteArray} {ret : Option FieldType} {st2 : List cg_V} (hSp : cg_D y ws rm' as M v M1) (hst : st = as.reverse ++ rest) (hG : GoodIn Ts (va_wsS own index y ws)) (hw : ws = Cond.code y bytes maxL ret :: ws') (d : decode cc pc = .ok (.invokestatic index, 3))
    (hd : y.cls ≠ "java/lang/invoke/MethodHandle" ∧ y.cls ≠ "java/lang/invoke/VarHandle" ∧ (parseMethodDescriptor y.desc).map (fun d => d.parameters.length) = some n) (hn : as.length = n) (hr : rm'.cells = 0 ∧ rm'.slots = 0 ∧ rm'.frames + 1 ≤ rm.frames ∧ 8 + (maxL + 11) + rm'.locals ≤ rm.locals) (hsum : (rest.map fun v => if cg_two v then 2 else 1).sum ≤ 8) (hst2 : v.toList ++ rest = st2)
    (K : cg_W E M1 (pc + 3) ls st2) : cg_W E M pc ls st :=
  cr_callS C hSp hst hG hw d hd hn hr hsum (fun v' M' h => by obtain ⟨rfl, rfl⟩ := h; rw [hst2]; exact K)
theorem cr_dN (C : cg_C E cc nL own Ts rm) {y : MethodName} {host : String} {ws ws' : List Cond} {rm' : Room} {as : List cg_V} {index maxL n : Nat} {bytes : ByteArray} {ret : Option FieldType} {st2 : List cg_V} (hSp : cg_D y ws rm' as M v M1) (hst : st = as.reverse ++ rest) (hG : GoodIn Ts ws) (hw : ws = Cond.code y bytes maxL ret :: ws') (d : decode cc pc = .ok (.invokestatic index, 3)) (hnw : Cond.methodLinkNest own index y host ∈ cg_nests) (hini : Cond.initialized y.cls ∈ Ts ∧ Cond.static y ∈ Ts)
    (hd : y.cls ≠ "java/lang/invoke/MethodHandle" ∧ y.cls ≠ "java/lang/invoke/VarHandle" ∧ (parseMethodDescriptor y.desc).map (fun d => d.parameters.length) = some n) (hn : as.length = n) (hr : rm'.cells = 0 ∧ rm'.slots = 0 ∧ rm'.frames + 1 ≤ rm.frames ∧ 8 + (maxL + 11) + rm'.locals ≤ rm.locals) (hsum : (rest.map fun v => if cg_two v then 2 else 1).sum ≤ 8) (hst2 : v.toList ++ rest = st2)
    (K : cg_W E M1 (pc + 3) ls st2) : cg_W E M pc ls st :=
  cr_callN C hSp hst hG hw d hnw hini.1 hini.2 hd hn hr hsum (fun v' M' h => by obtain ⟨rfl, rfl⟩ := h; rw [hst2]; exact K)
end CGD
theorem cg_inc1 (a : Nat) : nI a + Int32.ofInt 1 = nI (a + 1) := nI_1 a
/-- what a copy of the first k places of one array to another leaves -/
def cg_cp (M : cg_M) (q2 : cg_L) (k b1 : Nat) (f1 : Nat → Nat) : cg_M := fun b x => if (cg_ow b x).1 = q2 ∧ (cg_ow b x).2 < k then M b1 (f1 (cg_ow b x).2) else M b x
theorem cr_copy {E : cg_E} {cc : ByteArray} {nL : Nat} {own : String} {Ts : List Cond} {rm : Room} (C : cg_C E cc nL own Ts rm) {M : cg_M} {pc : Nat} {ls : List (Option cg_V)} {q1 q2 : cg_L} {b1 b2 n1 n2 k index : Nat} {f1 f2 : Nat → Nat} (h1 : cg_ai q1 = some (b1, n1, f1)) (h2 : cg_ai q2 = some (b2, n2, f2)) (o1 : cg_ok q1 = true) (o2 : cg_ok q2 = true) (k1 : k ≤ n1) (k2 : k ≤ n2) (hb : n1 < 2147483648) (hw : Cond.methodLink own index arraycopyName ∈ Ts ∧ Cond.native arraycopyName ∈ Ts ∧ Cond.static arraycopyName ∈ Ts ∧ Cond.initialized "java/lang/System" ∈ Ts) (hr : 1 ≤ rm.frames ∧ 40 ≤ rm.locals) (d : decode cc pc = .ok (.invokestatic index, 3)) (K : cg_W E (cg_cp M q2 k b1 f1) (pc + 3) ls []) : cg_W E M pc ls [.inl (nI k), .inl (nI 0), .inr (.inr q2), .inl (nI 0), .inr (.inr q1)] := by
  obtain ⟨p, l, e, R, s, m, args, below, meth, c0, Q, g, A, cells, slots⟩ := E
  intro H locs la hH hS hl
  obtain ⟨i1, hi1, -⟩ := cg_wd_at (g := g) (M := M) o1
  obtain ⟨i2, hi2, hj2⟩ := cg_wd_at (g := g) (M := M) o2
  rw [cg_ce_a h1] at hi1
  rw [cg_ce_a h2] at hi2
  have ht := C.2.2.2.2.1
  have hR : R = rm := C.2.2.2.2.2.2.2.2.2.1
  have hk2 : k < 2 ^ 31 := by omega
  have e0 : (nI 0).toNatClampNeg = 0 := nI_clamp (by decide)
  refine va_copyi (D := g.1) (cl := vwCl) (rest := []) C.1 C.2.1 hl.1.symm C.2.2.2.1 (ht _ hw.1) (ht _ hw.2.1) (ht _ hw.2.2.1) (ht _ hw.2.2.2) C.2.2.2.2.2.1 (cg_wd_P hH) (cg_wd_D C.2.2.2.2.2.2.2.1 C.2.2.2.2.2.2.2.2.1) hS i1 i2 0 0 hi1 hi2 rfl rfl rfl (sp := nI 0) (dp := nI 0) (n := nI k) (by decide) (by decide) (nI_pos hk2) (by rw [e0, nI_clamp hk2]; omega) (by rw [e0, nI_clamp hk2]; omega) (fun _ _ => rfl) (by rw [hR]; exact hr.1) (by rw [hR]; have := hr.2; exact (show 0 + (5 + 2 + 11) ≤ rm.locals by omega)) d (fun H1 locs1 hP1 _ hS1 => K H1 locs1 la ?_ hS1 hl)
  obtain ⟨g1, g2⟩ := cg_wd_set hj2 hP1
  rw [e0, nI_clamp hk2] at g1
  intro r hr2
  by_cases hq : r = q2
  · subst hq
    rw [cg_ce_a h2]
    have e1 : va_at g.1 vwCl (g.2.2 r, .inl (g.2.1.1, n2, .inl (fun j => cg_cp M r k b1 f1 b2 (f2 j)))) H1 = va_at g.1 vwCl (g.2.2 r, .inl (g.2.1.1, n2, .inl (va_cpy (fun j => M b1 (f1 j)) (fun j => M b2 (f2 j)) 0 0 k))) H1 := by
      simp only [va_at, vp_cell_i]
      rw [cg_arrV (f := fun j => Value.int (cg_cp M r k b1 f1 b2 (f2 j))) (f' := fun j => Value.int (va_cpy (fun j => M b1 (f1 j)) (fun j => M b2 (f2 j)) 0 0 k j))]
      intro j hj
      unfold cg_cp va_cpy
      rw [cg_ow_ai o2 h2 hj]
      simp
    rw [e1]
    exact g1
  · refine cg_at_same (g2 r hr2 hq) (fun b' n f h j' hj => ?_) (fun c j' hc hj hn => ?_)
    · unfold cg_cp
      rw [if_neg]
      rw [cg_ow_ai hr2 h hj]
      exact fun z => hq z.1
    · unfold cg_cp
      rw [if_neg]
      rw [cg_ow_fi hr2 hc hj hn]
      exact fun z => hq z.1
