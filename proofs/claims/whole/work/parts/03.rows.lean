/-! ===== the layer, 2: the judgement, rows ===== -/
abbrev cg_E : Type := Program × Launch × Env × Room × State × MethodId × Array Value × List Frame × Method × Code × (State → Prop) × cg_G × (Nat → Prop) × Nat × Nat
/-- what stands in the frame's variables -/
def cg_lv (ad : cg_L → Nat) : Nat → List (Option cg_V) → List (Nat × Value)
  | _, [] => []
  | i, none :: r => cg_lv ad (i + 1) r
  | i, some v :: r => (i, cg_vv ad v) :: cg_lv ad (i + 1) r
theorem cg_lv_mem {ad : cg_L → Nat} {x : Nat × Value} : ∀ {ls : List (Option cg_V)} {i : Nat}, x ∈ cg_lv ad i ls ↔ ∃ (k : Nat) (v : cg_V), ls[k]? = some (some v) ∧ x = (i + k, cg_vv ad v)
  | [], i => by simp [cg_lv]
  | none :: r, i => by
    show x ∈ cg_lv ad (i + 1) r ↔ _
    rw [cg_lv_mem]
    constructor
    · rintro ⟨k, v, h1, h2⟩
      exact ⟨k + 1, v, by simpa using h1, by rw [h2]; congr 1; omega⟩
    · rintro ⟨k, v, h1, h2⟩
      match k, h1 with
      | 0, h1 => simp at h1
      | k + 1, h1 => exact ⟨k, v, by simpa using h1, by rw [h2]; congr 1; omega⟩
  | some w :: r, i => by
    show x ∈ (i, cg_vv ad w) :: cg_lv ad (i + 1) r ↔ _
    rw [List.mem_cons, cg_lv_mem]
    constructor
    · rintro (h | ⟨k, v, h1, h2⟩)
      · exact ⟨0, w, rfl, h⟩
      · exact ⟨k + 1, v, by simpa using h1, by rw [h2]; congr 1; omega⟩
    · rintro ⟨k, v, h1, h2⟩
      match k, h1 with
      | 0, h1 => left; simp at h1; subst h1; exact h2
      | k + 1, h1 => right; exact ⟨k, v, by simpa using h1, by rw [h2]; congr 1; omega⟩
theorem cg_lv_get {ad : cg_L → Nat} {la : Array Slot} {nL k : Nat} {ls : List (Option cg_V)} {v : cg_V} (h : lv_has la nL (cg_lv ad 0 ls)) (hk : ls[k]? = some (some v)) : la[k]? = some (.val (cg_vv ad v)) := by
  have := h.2.2 (0 + k, cg_vv ad v) (cg_lv_mem.mpr ⟨k, v, hk, rfl⟩)
  simpa using this
def cg_two (v : cg_V) : Bool := match v with
  | .inr (.inl _) => true
  | _ => false
theorem cg_cat (ad : cg_L → Nat) (v : cg_V) : ((cg_vv ad v).category == 2) = cg_two v := by
  rcases v with x | x | x <;> rfl
/-- no long stands just ahead of place i -/
def cg_free (ls : List (Option cg_V)) (i : Nat) : Bool := match i with
  | 0 => true
  | i + 1 => match ls[i]? with
    | some (some v) => !cg_two v
    | _ => true
theorem cg_lv_set {ad : cg_L → Nat} {la : Array Slot} {nL i : Nat} {ls : List (Option cg_V)} {v : cg_V} {lv : List (Nat × Value)} (h : lv_has la nL lv) (hlv : lv = (i, cg_vv ad v) :: (cg_lv ad 0 ls).filter (fun q => !(q.1 == i) && !(q.1 + 1 == i && q.2.category == 2))) (hf : cg_free ls i = true) : lv_has la nL (cg_lv ad 0 (ls.set i (some v))) := by
  refine ⟨h.1, h.2.1, fun x hx => h.2.2 x ?_⟩
  obtain ⟨k, w, h1, h2⟩ := cg_lv_mem.mp hx
  rw [hlv]
  by_cases hk : i = k
  · subst hk
    rw [List.getElem?_set] at h1
    split at h1
    · split at h1
      · simp at h1; subst h1; rw [h2]; simp
      · simp at h1
    · omega
  · rw [List.getElem?_set_ne hk] at h1
    refine List.mem_cons_of_mem _ (List.mem_filter.mpr ⟨cg_lv_mem.mpr ⟨k, w, h1, h2⟩, ?_⟩)
    subst h2
    simp only [Nat.zero_add, cg_cat]
    have : (k == i) = false := by simp; omega
    rw [this]
    simp only [Bool.not_false, Bool.true_and, Bool.not_eq_true', Bool.and_eq_false_imp, beq_iff_eq]
    intro hki
    subst hki
    simp only [cg_free, h1] at hf
    simpa using hf
theorem cg_lv_set2 {ad : cg_L → Nat} {la : Array Slot} {nL i : Nat} {ls : List (Option cg_V)} {v : cg_V} {lv : List (Nat × Value)} (h : lv_has la nL lv) (hlv : lv = (i, cg_vv ad v) :: (cg_lv ad 0 ls).filter (fun q => !(q.1 == i) && (!(q.1 == i + 1) && !(q.1 + 1 == i && q.2.category == 2)))) (hf : cg_free ls i = true) : lv_has la nL (cg_lv ad 0 ((ls.set i (some v)).set (i + 1) none)) := by
  refine ⟨h.1, h.2.1, fun x hx => h.2.2 x ?_⟩
  obtain ⟨k, w, h1, h2⟩ := cg_lv_mem.mp hx
  rw [hlv]
  have hk1 : i + 1 ≠ k := by
    rintro rfl
    rw [List.getElem?_set] at h1
    split at h1
    · split at h1 <;> simp at h1
    · omega
  rw [List.getElem?_set_ne hk1] at h1
  by_cases hk : i = k
  · subst hk
    rw [List.getElem?_set] at h1
    split at h1
    · split at h1
      · simp at h1; subst h1; rw [h2]; simp
      · simp at h1
    · omega
  · rw [List.getElem?_set_ne hk] at h1
    refine List.mem_cons_of_mem _ (List.mem_filter.mpr ⟨cg_lv_mem.mpr ⟨k, w, h1, h2⟩, ?_⟩)
    subst h2
    simp only [Nat.zero_add, cg_cat]
    have e1 : (k == i) = false := by simp; omega
    have e2 : (k == i + 1) = false := by simp; omega
    rw [e1, e2]
    simp only [Bool.not_false, Bool.true_and, Bool.not_eq_true', Bool.and_eq_false_imp, beq_iff_eq]
    intro hki
    subst hki
    simp only [cg_free, h1] at hf
    simpa using hf
def cg_nests : List Cond := [.methodLinkNest RX2 59 yX3_isClient RX3, .methodLinkNest RX2 63 yX3_isBelow RX3, .methodLinkNest RX2 67 yX3_isReplica RX3, .methodLinkNest RX2 70 yX3_isKey RX3, .methodLinkNest RX2 73 yX3_only RX3, .methodLinkNest RX2 109 yX3_contains RX3, .methodLinkNest RX2 115 yX3_mix RX3, .methodLinkNest RX2 119 yX3_mixAll RX3]
def cg_N (U : State) : Prop := ∀ w ∈ cg_nests, va_Nw w U
def cg_C (E : cg_E) (cc : ByteArray) (nL : Nat) (own : String) (Ts : List Cond) (rm : Room) : Prop := match E with
  | (p, _, _, R, s, m, args, _, _, c, _, g, A, cells, slots) => p.tables.exec = Jvm.exec ∧ c.code = cc ∧ c.maxLocals = nL ∧ s.vm.findClass own = some m.cls ∧ (∀ w ∈ Ts, w.before args s = true) ∧ va_K g.1 vwCl (cg_tys g) s ∧ cg_N s ∧ cg_inj g ∧ (∀ q : cg_L, cg_ok q = true → A (g.2.2 q)) ∧ R = rm ∧ cells ≤ R.cells ∧ slots ≤ R.slots
def cg_W (E : cg_E) (M : cg_M) (pc : Nat) (ls : List (Option cg_V)) (st : List cg_V) : Prop := match E with
  | (p, l, e, R, s, m, args, below, meth, c, Q, g, A, cells, slots) => ∀ (H : Heap) (locs : List Loc) (la : Array Slot), cg_H g M H → va_S A s.heap H locs → lv_has la c.maxLocals (cg_lv g.2.2 0 ls) → W p l e R s m args below meth c H locs cells slots Q (F0 m pc la (st.map (cg_vv g.2.2)))
/-- all labels -/
def cg_all : List cg_L := ((List.range 5).flatMap fun a => (List.range 6).flatMap fun k => (List.range 13).flatMap fun f => (List.range 35).map fun r => (a, k, f, r)).filter cg_ok
theorem cg_ok_lt {a k f r : Nat} (h : cg_ok (a, k, f, r) = true) : a < 5 ∧ k < 6 ∧ f < 13 ∧ r < 35 := by
  unfold cg_ok at h
  split at h <;> simp_all <;> omega
theorem cg_all_mem {q : cg_L} (h : cg_ok q = true) : q ∈ cg_all := by
  obtain ⟨a, k, f, r⟩ := q
  obtain ⟨h1, h2, h3, h4⟩ := cg_ok_lt h
  unfold cg_all
  refine List.mem_filter.mpr ⟨?_, h⟩
  simp only [List.mem_flatMap, List.mem_range, List.mem_map]
  exact ⟨a, h1, k, h2, f, h3, r, h4, rfl⟩
theorem cg_all_ok {q : cg_L} (h : q ∈ cg_all) : cg_ok q = true := (List.mem_filter.mp h).2
theorem cg_all_nd : cg_all.Nodup := by decide +kernel
def cg_wd (g : cg_G) (M : cg_M) : va_W := cg_all.map (fun q => (g.2.2 q, cg_ce g M q))
theorem cg_wd_at {g : cg_G} {M : cg_M} {q : cg_L} (h : cg_ok q = true) : ∃ i : Nat, (cg_wd g M)[i]? = some (g.2.2 q, cg_ce g M q) ∧ cg_all[i]? = some q := by
  obtain ⟨i, hi⟩ := List.getElem?_of_mem (cg_all_mem h)
  exact ⟨i, by unfold cg_wd; rw [List.getElem?_map, hi]; rfl, hi⟩
theorem cg_wd_P {g : cg_G} {M : cg_M} {H : Heap} (h : cg_H g M H) : va_P g.1 vwCl (cg_wd g M) H := by
  intro k x hx
  unfold cg_wd at hx
  rw [List.getElem?_map] at hx
  cases hq : cg_all[k]? with
  | none => rw [hq] at hx; simp at hx
  | some q => rw [hq] at hx; simp at hx; subst hx; exact h q (cg_all_ok (List.mem_of_getElem? hq))
theorem cg_wd_D {g : cg_G} {M : cg_M} {A : Nat → Prop} (hi : cg_inj g) (hA : ∀ q : cg_L, cg_ok q = true → A (g.2.2 q)) : va_D A (cg_wd g M) := by
  have at' : ∀ (k : Nat) (x : Nat × va_E), (cg_wd g M)[k]? = some x → ∃ q, cg_all[k]? = some q ∧ x.1 = g.2.2 q := by
    intro k x hx
    unfold cg_wd at hx
    rw [List.getElem?_map] at hx
    cases hq : cg_all[k]? with
    | none => rw [hq] at hx; simp at hx
    | some q => rw [hq] at hx; simp at hx; subst hx; exact ⟨q, rfl, rfl⟩
  refine ⟨fun i j x y hx hy he => ?_, fun k x hx => ?_⟩
  · obtain ⟨q, hq, e1⟩ := at' i x hx
    obtain ⟨r, hr, e2⟩ := at' j y hy
    have hqr : q = r := hi q r (cg_all_ok (List.mem_of_getElem? hq)) (cg_all_ok (List.mem_of_getElem? hr)) (by rw [← e1, ← e2, he])
    subst hqr
    obtain ⟨h1, h1'⟩ := List.getElem?_eq_some_iff.mp hq
    obtain ⟨h2, h2'⟩ := List.getElem?_eq_some_iff.mp hr
    exact (List.getElem_inj cg_all_nd).mp (h1'.trans h2'.symm)
  · obtain ⟨q, hq, e1⟩ := at' k x hx
    rw [e1]
    exact hA q (cg_all_ok (List.mem_of_getElem? hq))
/-- behind a write to one cell: the others as they were -/
theorem cg_wd_set {g : cg_G} {M : cg_M} {H : Heap} {q : cg_L} {i : Nat} {x : va_E} (hi : cg_all[i]? = some q) (h : va_P g.1 vwCl ((cg_wd g M).set i (g.2.2 q, x)) H) : va_at g.1 vwCl (g.2.2 q, x) H ∧ ∀ r, cg_ok r = true → r ≠ q → va_at g.1 vwCl (g.2.2 r, cg_ce g M r) H := by
  have hl : i < (cg_wd g M).length := by unfold cg_wd; rw [List.length_map]; exact (List.getElem?_eq_some_iff.mp hi).1
  refine ⟨h i _ (List.getElem?_set_self hl), fun r hr hne => ?_⟩
  obtain ⟨j, hj, hj2⟩ := cg_wd_at (g := g) (M := M) hr
  refine h j _ ?_
  rw [List.getElem?_set_ne ?_]
  · exact hj
  · rintro rfl
    exact hne (Option.some.inj (hj2.symm.trans hi))
theorem cg_H_up {g : cg_G} {M : cg_M} {H : Heap} {q : cg_L} {b x j : Nat} {v : Int32} (ho : cg_ow b x = (q, j)) (h1 : va_at g.1 vwCl (g.2.2 q, cg_ce g (cg_up M b x v) q) H) (h2 : ∀ r, cg_ok r = true → r ≠ q → va_at g.1 vwCl (g.2.2 r, cg_ce g M r) H) : cg_H g (cg_up M b x v) H := by
  intro r hr
  by_cases hq : r = q
  · rw [hq]; exact h1
  · refine cg_at_same (h2 r hr hq) (fun b' n f h j' hj => ?_) (fun c j' hc hj hn => ?_)
    · exact cg_up_ne (by rw [ho, cg_ow_ai hr h hj]; exact fun e => hq (congrArg Prod.fst e))
    · exact cg_up_ne (by rw [ho, cg_ow_fi hr hc hj hn]; exact fun e => hq (congrArg Prod.fst e))
section CGR

theorem cr_iconst {E : cg_E} {cc : ByteArray} {nL : Nat} {own : String} {Ts : List Cond} {rm : Room} (C : cg_C E cc nL own Ts rm) {M : cg_M} {pc : Nat} {ls : List (Option cg_V)} {rest : List cg_V} {n : Int} {v : Int32} (d : decode cc pc = .ok (.iconst n, 1)) (hv : Int32.ofInt n = v) (K : cg_W E M (pc + 1) ls (.inl v :: rest)) : cg_W E M pc ls (rest) := by
  obtain ⟨p, l, e, R, s, m, args, below, meth, c, Q, g, A, cells, slots⟩ := E
  intro H locs la hH hS hl
  exact lv_iconst C.1 C.2.1 d hv (K H locs la hH hS hl)
theorem cr_bipush {E : cg_E} {cc : ByteArray} {nL : Nat} {own : String} {Ts : List Cond} {rm : Room} (C : cg_C E cc nL own Ts rm) {M : cg_M} {pc : Nat} {ls : List (Option cg_V)} {rest : List cg_V} {n : Int} {v : Int32} (d : decode cc pc = .ok (.bipush n, 2)) (hv : (Int8.ofInt n).toInt32 = v) (K : cg_W E M (pc + 2) ls (.inl v :: rest)) : cg_W E M pc ls (rest) := by
  obtain ⟨p, l, e, R, s, m, args, below, meth, c, Q, g, A, cells, slots⟩ := E
  intro H locs la hH hS hl
  exact lv_bipush C.1 C.2.1 d hv (K H locs la hH hS hl)
theorem cr_sipush {E : cg_E} {cc : ByteArray} {nL : Nat} {own : String} {Ts : List Cond} {rm : Room} (C : cg_C E cc nL own Ts rm) {M : cg_M} {pc : Nat} {ls : List (Option cg_V)} {rest : List cg_V} {n : Int} {v : Int32} (d : decode cc pc = .ok (.sipush n, 3)) (hv : (Int16.ofInt n).toInt32 = v) (K : cg_W E M (pc + 3) ls (.inl v :: rest)) : cg_W E M pc ls (rest) := by
  obtain ⟨p, l, e, R, s, m, args, below, meth, c, Q, g, A, cells, slots⟩ := E
  intro H locs la hH hS hl
  exact lv_sipush C.1 C.2.1 d hv (K H locs la hH hS hl)
theorem cr_lconst {E : cg_E} {cc : ByteArray} {nL : Nat} {own : String} {Ts : List Cond} {rm : Room} (C : cg_C E cc nL own Ts rm) {M : cg_M} {pc : Nat} {ls : List (Option cg_V)} {rest : List cg_V} {n : Fin 2} {v : Int64} (d : decode cc pc = .ok (.lconst n, 1)) (hv : Int64.ofNat (n : Nat) = v) (K : cg_W E M (pc + 1) ls (.inr (.inl v) :: rest)) : cg_W E M pc ls (rest) := by
  obtain ⟨p, l, e, R, s, m, args, below, meth, c, Q, g, A, cells, slots⟩ := E
  intro H locs la hH hS hl
  exact lv_lconst C.1 C.2.1 d hv (K H locs la hH hS hl)
theorem cr_ldc2 {E : cg_E} {cc : ByteArray} {nL : Nat} {own : String} {Ts : List Cond} {rm : Room} (C : cg_C E cc nL own Ts rm) {M : cg_M} {pc : Nat} {ls : List (Option cg_V)} {rest : List cg_V} {index : Nat} {v : Int64} (d : decode cc pc = .ok (.ldc2_w index, 3)) (hw : Jvm.Cond.constantLong own index v ∈ Ts) (K : cg_W E M (pc + 3) ls (.inr (.inl v) :: rest)) : cg_W E M pc ls (rest) := by
  obtain ⟨p, l, e, R, s, m, args, below, meth, c, Q, g, A, cells, slots⟩ := E
  intro H locs la hH hS hl
  exact lv_ldc2 C.1 C.2.1 C.2.2.2.1 (C.2.2.2.2.1 _ hw) d (K H locs la hH hS hl)
theorem cr_iload_n {E : cg_E} {cc : ByteArray} {nL : Nat} {own : String} {Ts : List Cond} {rm : Room} (C : cg_C E cc nL own Ts rm) {M : cg_M} {pc : Nat} {ls : List (Option cg_V)} {rest : List cg_V} {k : Fin 4} {x : Int32} (d : decode cc pc = .ok (.iload_n k, 1)) (h : ls[(k : Nat)]? = some (some (.inl x))) (K : cg_W E M (pc + 1) ls (.inl x :: rest)) : cg_W E M pc ls (rest) := by
  obtain ⟨p, l, e, R, s, m, args, below, meth, c, Q, g, A, cells, slots⟩ := E
  intro H locs la hH hS hl
  exact lv_iload_n C.1 C.2.1 d rfl (cg_lv_get hl h) (K H locs la hH hS hl)
theorem cr_iload {E : cg_E} {cc : ByteArray} {nL : Nat} {own : String} {Ts : List Cond} {rm : Room} (C : cg_C E cc nL own Ts rm) {M : cg_M} {pc : Nat} {ls : List (Option cg_V)} {rest : List cg_V} {k : Nat} {x : Int32} (d : decode cc pc = .ok (.iload k, 2)) (h : ls[k]? = some (some (.inl x))) (K : cg_W E M (pc + 2) ls (.inl x :: rest)) : cg_W E M pc ls (rest) := by
  obtain ⟨p, l, e, R, s, m, args, below, meth, c, Q, g, A, cells, slots⟩ := E
  intro H locs la hH hS hl
  exact lv_iload C.1 C.2.1 d (cg_lv_get hl h) (K H locs la hH hS hl)
theorem cr_lload_n {E : cg_E} {cc : ByteArray} {nL : Nat} {own : String} {Ts : List Cond} {rm : Room} (C : cg_C E cc nL own Ts rm) {M : cg_M} {pc : Nat} {ls : List (Option cg_V)} {rest : List cg_V} {k : Fin 4} {x : Int64} (d : decode cc pc = .ok (.lload_n k, 1)) (h : ls[(k : Nat)]? = some (some (.inr (.inl x)))) (K : cg_W E M (pc + 1) ls (.inr (.inl x) :: rest)) : cg_W E M pc ls (rest) := by
  obtain ⟨p, l, e, R, s, m, args, below, meth, c, Q, g, A, cells, slots⟩ := E
  intro H locs la hH hS hl
  exact lv_lload_n C.1 C.2.1 d rfl (cg_lv_get hl h) (K H locs la hH hS hl)
theorem cr_lload {E : cg_E} {cc : ByteArray} {nL : Nat} {own : String} {Ts : List Cond} {rm : Room} (C : cg_C E cc nL own Ts rm) {M : cg_M} {pc : Nat} {ls : List (Option cg_V)} {rest : List cg_V} {k : Nat} {x : Int64} (d : decode cc pc = .ok (.lload k, 2)) (h : ls[k]? = some (some (.inr (.inl x)))) (K : cg_W E M (pc + 2) ls (.inr (.inl x) :: rest)) : cg_W E M pc ls (rest) := by
  obtain ⟨p, l, e, R, s, m, args, below, meth, c, Q, g, A, cells, slots⟩ := E
  intro H locs la hH hS hl
  exact lv_lload C.1 C.2.1 d (cg_lv_get hl h) (K H locs la hH hS hl)
theorem cr_aload_n {E : cg_E} {cc : ByteArray} {nL : Nat} {own : String} {Ts : List Cond} {rm : Room} (C : cg_C E cc nL own Ts rm) {M : cg_M} {pc : Nat} {ls : List (Option cg_V)} {rest : List cg_V} {k : Fin 4} {x : cg_L} (d : decode cc pc = .ok (.aload_n k, 1)) (h : ls[(k : Nat)]? = some (some (.inr (.inr x)))) (K : cg_W E M (pc + 1) ls (.inr (.inr x) :: rest)) : cg_W E M pc ls (rest) := by
  obtain ⟨p, l, e, R, s, m, args, below, meth, c, Q, g, A, cells, slots⟩ := E
  intro H locs la hH hS hl
  exact lv_aload_n C.1 C.2.1 d rfl (cg_lv_get hl h) (K H locs la hH hS hl)
theorem cr_aload {E : cg_E} {cc : ByteArray} {nL : Nat} {own : String} {Ts : List Cond} {rm : Room} (C : cg_C E cc nL own Ts rm) {M : cg_M} {pc : Nat} {ls : List (Option cg_V)} {rest : List cg_V} {k : Nat} {x : cg_L} (d : decode cc pc = .ok (.aload k, 2)) (h : ls[k]? = some (some (.inr (.inr x)))) (K : cg_W E M (pc + 2) ls (.inr (.inr x) :: rest)) : cg_W E M pc ls (rest) := by
  obtain ⟨p, l, e, R, s, m, args, below, meth, c, Q, g, A, cells, slots⟩ := E
  intro H locs la hH hS hl
  exact lv_aload C.1 C.2.1 d (cg_lv_get hl h) (K H locs la hH hS hl)
theorem cr_istore_n {E : cg_E} {cc : ByteArray} {nL : Nat} {own : String} {Ts : List Cond} {rm : Room} (C : cg_C E cc nL own Ts rm) {M : cg_M} {pc : Nat} {ls : List (Option cg_V)} {rest : List cg_V} {k : Fin 4} {x : Int32} (d : decode cc pc = .ok (.istore_n k, 1)) (hn : (k : Nat) < nL) (hf : cg_free ls k = true) (K : cg_W E M (pc + 1) (ls.set k (some (.inl x))) rest) : cg_W E M pc ls (.inl x :: rest) := by
  obtain ⟨p, l, e, R, s, m, args, below, meth, c, Q, g, A, cells, slots⟩ := E
  intro H locs la hH hS hl
  exact lv_istore_n C.1 C.2.1 d rfl hl (by rw [C.2.2.1]; exact hn) rfl (fun la hl => K H locs la hH hS (cg_lv_set hl rfl hf))
theorem cr_istore {E : cg_E} {cc : ByteArray} {nL : Nat} {own : String} {Ts : List Cond} {rm : Room} (C : cg_C E cc nL own Ts rm) {M : cg_M} {pc : Nat} {ls : List (Option cg_V)} {rest : List cg_V} {k : Nat} {x : Int32} (d : decode cc pc = .ok (.istore k, 2)) (hn : k < nL) (hf : cg_free ls k = true) (K : cg_W E M (pc + 2) (ls.set k (some (.inl x))) rest) : cg_W E M pc ls (.inl x :: rest) := by
  obtain ⟨p, l, e, R, s, m, args, below, meth, c, Q, g, A, cells, slots⟩ := E
  intro H locs la hH hS hl
  exact lv_istore C.1 C.2.1 d hl (by rw [C.2.2.1]; exact hn) rfl (fun la hl => K H locs la hH hS (cg_lv_set hl rfl hf))
theorem cr_astore_n {E : cg_E} {cc : ByteArray} {nL : Nat} {own : String} {Ts : List Cond} {rm : Room} (C : cg_C E cc nL own Ts rm) {M : cg_M} {pc : Nat} {ls : List (Option cg_V)} {rest : List cg_V} {k : Fin 4} {x : cg_L} (d : decode cc pc = .ok (.astore_n k, 1)) (hn : (k : Nat) < nL) (hf : cg_free ls k = true) (K : cg_W E M (pc + 1) (ls.set k (some (.inr (.inr x)))) rest) : cg_W E M pc ls (.inr (.inr x) :: rest) := by
  obtain ⟨p, l, e, R, s, m, args, below, meth, c, Q, g, A, cells, slots⟩ := E
  intro H locs la hH hS hl
  exact lv_astore_n C.1 C.2.1 d rfl hl (by rw [C.2.2.1]; exact hn) rfl (fun la hl => K H locs la hH hS (cg_lv_set (v := .inr (.inr x)) hl rfl hf))
theorem cr_astore {E : cg_E} {cc : ByteArray} {nL : Nat} {own : String} {Ts : List Cond} {rm : Room} (C : cg_C E cc nL own Ts rm) {M : cg_M} {pc : Nat} {ls : List (Option cg_V)} {rest : List cg_V} {k : Nat} {x : cg_L} (d : decode cc pc = .ok (.astore k, 2)) (hn : k < nL) (hf : cg_free ls k = true) (K : cg_W E M (pc + 2) (ls.set k (some (.inr (.inr x)))) rest) : cg_W E M pc ls (.inr (.inr x) :: rest) := by
  obtain ⟨p, l, e, R, s, m, args, below, meth, c, Q, g, A, cells, slots⟩ := E
  intro H locs la hH hS hl
  exact lv_astore C.1 C.2.1 d hl (by rw [C.2.2.1]; exact hn) rfl (fun la hl => K H locs la hH hS (cg_lv_set (v := .inr (.inr x)) hl rfl hf))
theorem cr_lstore_n {E : cg_E} {cc : ByteArray} {nL : Nat} {own : String} {Ts : List Cond} {rm : Room} (C : cg_C E cc nL own Ts rm) {M : cg_M} {pc : Nat} {ls : List (Option cg_V)} {rest : List cg_V} {k : Fin 4} {x : Int64} (d : decode cc pc = .ok (.lstore_n k, 1)) (hn : (k : Nat) + 1 < nL) (hf : cg_free ls k = true) (K : cg_W E M (pc + 1) ((ls.set k (some (.inr (.inl x)))).set (k + 1) none) rest) : cg_W E M pc ls (.inr (.inl x) :: rest) := by
  obtain ⟨p, l, e, R, s, m, args, below, meth, c, Q, g, A, cells, slots⟩ := E
  intro H locs la hH hS hl
  exact lv_lstore_n C.1 C.2.1 d rfl hl (by rw [C.2.2.1]; exact hn) rfl (fun la hl => K H locs la hH hS (cg_lv_set2 (v := .inr (.inl x)) hl rfl hf))
theorem cr_lstore {E : cg_E} {cc : ByteArray} {nL : Nat} {own : String} {Ts : List Cond} {rm : Room} (C : cg_C E cc nL own Ts rm) {M : cg_M} {pc : Nat} {ls : List (Option cg_V)} {rest : List cg_V} {k : Nat} {x : Int64} (d : decode cc pc = .ok (.lstore k, 2)) (hn : k + 1 < nL) (hf : cg_free ls k = true) (K : cg_W E M (pc + 2) ((ls.set k (some (.inr (.inl x)))).set (k + 1) none) rest) : cg_W E M pc ls (.inr (.inl x) :: rest) := by
  obtain ⟨p, l, e, R, s, m, args, below, meth, c, Q, g, A, cells, slots⟩ := E
  intro H locs la hH hS hl
  exact lv_lstore C.1 C.2.1 d hl (by rw [C.2.2.1]; exact hn) rfl (fun la hl => K H locs la hH hS (cg_lv_set2 (v := .inr (.inl x)) hl rfl hf))
theorem cr_iinc {E : cg_E} {cc : ByteArray} {nL : Nat} {own : String} {Ts : List Cond} {rm : Room} (C : cg_C E cc nL own Ts rm) {M : cg_M} {pc : Nat} {ls : List (Option cg_V)} {rest : List cg_V} {k : Nat} {n : Int} {x v : Int32} (d : decode cc pc = .ok (.iinc k n, 3)) (h : ls[k]? = some (some (.inl x))) (hv : x + Int32.ofInt n = v) (hn : k < nL) (hf : cg_free ls k = true) (K : cg_W E M (pc + 3) (ls.set k (some (.inl v))) rest) : cg_W E M pc ls rest := by
  obtain ⟨p, l, e, R, s, m, args, below, meth, c, Q, g, A, cells, slots⟩ := E
  intro H locs la hH hS hl
  obtain ⟨i, hi⟩ := List.getElem?_of_mem (cg_lv_mem (ad := g.2.2) (i := 0) |>.mpr ⟨k, .inl x, h, rfl⟩)
  rw [Nat.zero_add] at hi
  exact lv_iinc C.1 C.2.1 d hl hi hv (by rw [C.2.2.1]; exact hn) rfl (fun la hl => K H locs la hH hS (cg_lv_set hl rfl hf))
theorem cr_iadd {E : cg_E} {cc : ByteArray} {nL : Nat} {own : String} {Ts : List Cond} {rm : Room} (C : cg_C E cc nL own Ts rm) {M : cg_M} {pc : Nat} {ls : List (Option cg_V)} {rest : List cg_V} {x y : Int32} (d : decode cc pc = .ok (.iadd, 1)) (K : cg_W E M (pc + 1) ls (.inl (x + y) :: rest)) : cg_W E M pc ls (.inl y :: .inl x :: rest) := by
  obtain ⟨p, l, e, R, s, m, args, below, meth, c, Q, g, A, cells, slots⟩ := E
  intro H locs la hH hS hl
  exact lv_iadd C.1 C.2.1 d (K H locs la hH hS hl)
theorem cr_isub {E : cg_E} {cc : ByteArray} {nL : Nat} {own : String} {Ts : List Cond} {rm : Room} (C : cg_C E cc nL own Ts rm) {M : cg_M} {pc : Nat} {ls : List (Option cg_V)} {rest : List cg_V} {x y : Int32} (d : decode cc pc = .ok (.isub, 1)) (K : cg_W E M (pc + 1) ls (.inl (x - y) :: rest)) : cg_W E M pc ls (.inl y :: .inl x :: rest) := by
  obtain ⟨p, l, e, R, s, m, args, below, meth, c, Q, g, A, cells, slots⟩ := E
  intro H locs la hH hS hl
  exact lv_isub C.1 C.2.1 d (K H locs la hH hS hl)
theorem cr_imul {E : cg_E} {cc : ByteArray} {nL : Nat} {own : String} {Ts : List Cond} {rm : Room} (C : cg_C E cc nL own Ts rm) {M : cg_M} {pc : Nat} {ls : List (Option cg_V)} {rest : List cg_V} {x y : Int32} (d : decode cc pc = .ok (.imul, 1)) (K : cg_W E M (pc + 1) ls (.inl (x * y) :: rest)) : cg_W E M pc ls (.inl y :: .inl x :: rest) := by
  obtain ⟨p, l, e, R, s, m, args, below, meth, c, Q, g, A, cells, slots⟩ := E
  intro H locs la hH hS hl
  exact lv_imul C.1 C.2.1 d (K H locs la hH hS hl)
theorem cr_iand {E : cg_E} {cc : ByteArray} {nL : Nat} {own : String} {Ts : List Cond} {rm : Room} (C : cg_C E cc nL own Ts rm) {M : cg_M} {pc : Nat} {ls : List (Option cg_V)} {rest : List cg_V} {x y : Int32} (d : decode cc pc = .ok (.iand, 1)) (K : cg_W E M (pc + 1) ls (.inl (x &&& y) :: rest)) : cg_W E M pc ls (.inl y :: .inl x :: rest) := by
  obtain ⟨p, l, e, R, s, m, args, below, meth, c, Q, g, A, cells, slots⟩ := E
  intro H locs la hH hS hl
  exact lv_iand C.1 C.2.1 d (K H locs la hH hS hl)
theorem cr_ior {E : cg_E} {cc : ByteArray} {nL : Nat} {own : String} {Ts : List Cond} {rm : Room} (C : cg_C E cc nL own Ts rm) {M : cg_M} {pc : Nat} {ls : List (Option cg_V)} {rest : List cg_V} {x y : Int32} (d : decode cc pc = .ok (.ior, 1)) (K : cg_W E M (pc + 1) ls (.inl (x ||| y) :: rest)) : cg_W E M pc ls (.inl y :: .inl x :: rest) := by
  obtain ⟨p, l, e, R, s, m, args, below, meth, c, Q, g, A, cells, slots⟩ := E
  intro H locs la hH hS hl
  exact lv_ior C.1 C.2.1 d (K H locs la hH hS hl)
theorem cr_ishl {E : cg_E} {cc : ByteArray} {nL : Nat} {own : String} {Ts : List Cond} {rm : Room} (C : cg_C E cc nL own Ts rm) {M : cg_M} {pc : Nat} {ls : List (Option cg_V)} {rest : List cg_V} {x y : Int32} (d : decode cc pc = .ok (.ishl, 1)) (K : cg_W E M (pc + 1) ls (.inl (x <<< (y &&& 31)) :: rest)) : cg_W E M pc ls (.inl y :: .inl x :: rest) := by
  obtain ⟨p, l, e, R, s, m, args, below, meth, c, Q, g, A, cells, slots⟩ := E
  intro H locs la hH hS hl
  exact lv_ishl C.1 C.2.1 d (K H locs la hH hS hl)
theorem cr_ishr {E : cg_E} {cc : ByteArray} {nL : Nat} {own : String} {Ts : List Cond} {rm : Room} (C : cg_C E cc nL own Ts rm) {M : cg_M} {pc : Nat} {ls : List (Option cg_V)} {rest : List cg_V} {x y : Int32} (d : decode cc pc = .ok (.ishr, 1)) (K : cg_W E M (pc + 1) ls (.inl (x >>> (y &&& 31)) :: rest)) : cg_W E M pc ls (.inl y :: .inl x :: rest) := by
  obtain ⟨p, l, e, R, s, m, args, below, meth, c, Q, g, A, cells, slots⟩ := E
  intro H locs la hH hS hl
  exact lv_ishr C.1 C.2.1 d (K H locs la hH hS hl)
theorem cr_irem {E : cg_E} {cc : ByteArray} {nL : Nat} {own : String} {Ts : List Cond} {rm : Room} (C : cg_C E cc nL own Ts rm) {M : cg_M} {pc : Nat} {ls : List (Option cg_V)} {rest : List cg_V} {x y : Int32} (d : decode cc pc = .ok (.irem, 1)) (hne : ¬ y = 0) (K : cg_W E M (pc + 1) ls (.inl (x - x / y * y) :: rest)) : cg_W E M pc ls (.inl y :: .inl x :: rest) := by
  obtain ⟨p, l, e, R, s, m, args, below, meth, c, Q, g, A, cells, slots⟩ := E
  intro H locs la hH hS hl
  exact lv_irem C.1 C.2.1 d hne (K H locs la hH hS hl)
theorem cr_iadd_n {E : cg_E} {cc : ByteArray} {nL : Nat} {own : String} {Ts : List Cond} {rm : Room} (C : cg_C E cc nL own Ts rm) {M : cg_M} {pc : Nat} {ls : List (Option cg_V)} {rest : List cg_V} {a b : Nat} (d : decode cc pc = .ok (.iadd, 1)) (K : cg_W E M (pc + 1) ls (.inl (nI (a + b)) :: rest)) : cg_W E M pc ls (.inl (nI b) :: .inl (nI a) :: rest) := cr_iadd C d (by rw [nI_add]; exact K)
theorem cr_imul_n {E : cg_E} {cc : ByteArray} {nL : Nat} {own : String} {Ts : List Cond} {rm : Room} (C : cg_C E cc nL own Ts rm) {M : cg_M} {pc : Nat} {ls : List (Option cg_V)} {rest : List cg_V} {a b : Nat} (d : decode cc pc = .ok (.imul, 1)) (K : cg_W E M (pc + 1) ls (.inl (nI (a * b)) :: rest)) : cg_W E M pc ls (.inl (nI b) :: .inl (nI a) :: rest) := cr_imul C d (by rw [pk_mul]; exact K)
theorem cr_top {E : cg_E} {M : cg_M} {pc : Nat} {ls : List (Option cg_V)} {rest : List cg_V} {x y : Int32} (h : x = y) (K : cg_W E M pc ls (.inl y :: rest)) : cg_W E M pc ls (.inl x :: rest) := by rw [h]; exact K
theorem cr_mem {E : cg_E} {M M' : cg_M} {pc : Nat} {ls : List (Option cg_V)} {st : List cg_V} (h : M = M') (K : cg_W E M' pc ls st) : cg_W E M pc ls st := by rw [h]; exact K
theorem cr_pc {E : cg_E} {M : cg_M} {pc pc' : Nat} {ls : List (Option cg_V)} {st : List cg_V} (h : pc = pc') (K : cg_W E M pc' ls st) : cg_W E M pc ls st := by rw [h]; exact K
theorem cr_ladd {E : cg_E} {cc : ByteArray} {nL : Nat} {own : String} {Ts : List Cond} {rm : Room} (C : cg_C E cc nL own Ts rm) {M : cg_M} {pc : Nat} {ls : List (Option cg_V)} {rest : List cg_V} {x y : Int64} (d : decode cc pc = .ok (.ladd, 1)) (K : cg_W E M (pc + 1) ls (.inr (.inl (x + y)) :: rest)) : cg_W E M pc ls (.inr (.inl y) :: .inr (.inl x) :: rest) := by
  obtain ⟨p, l, e, R, s, m, args, below, meth, c, Q, g, A, cells, slots⟩ := E
  intro H locs la hH hS hl
  exact lv_ladd C.1 C.2.1 d (K H locs la hH hS hl)
theorem cr_lmul {E : cg_E} {cc : ByteArray} {nL : Nat} {own : String} {Ts : List Cond} {rm : Room} (C : cg_C E cc nL own Ts rm) {M : cg_M} {pc : Nat} {ls : List (Option cg_V)} {rest : List cg_V} {x y : Int64} (d : decode cc pc = .ok (.lmul, 1)) (K : cg_W E M (pc + 1) ls (.inr (.inl (x * y)) :: rest)) : cg_W E M pc ls (.inr (.inl y) :: .inr (.inl x) :: rest) := by
  obtain ⟨p, l, e, R, s, m, args, below, meth, c, Q, g, A, cells, slots⟩ := E
  intro H locs la hH hS hl
  exact lv_lmul C.1 C.2.1 d (K H locs la hH hS hl)
theorem cr_i2l {E : cg_E} {cc : ByteArray} {nL : Nat} {own : String} {Ts : List Cond} {rm : Room} (C : cg_C E cc nL own Ts rm) {M : cg_M} {pc : Nat} {ls : List (Option cg_V)} {rest : List cg_V} {x : Int32} (d : decode cc pc = .ok (.i2l, 1)) (K : cg_W E M (pc + 1) ls (.inr (.inl x.toInt64) :: rest)) : cg_W E M pc ls (.inl x :: rest) := by
  obtain ⟨p, l, e, R, s, m, args, below, meth, c, Q, g, A, cells, slots⟩ := E
  intro H locs la hH hS hl
  exact lv_i2l C.1 C.2.1 d rfl (K H locs la hH hS hl)
theorem cr_dup {E : cg_E} {cc : ByteArray} {nL : Nat} {own : String} {Ts : List Cond} {rm : Room} (C : cg_C E cc nL own Ts rm) {M : cg_M} {pc : Nat} {ls : List (Option cg_V)} {rest : List cg_V} {v : cg_V} (d : decode cc pc = .ok (.dup, 1)) (hv : cg_two v = false) (K : cg_W E M (pc + 1) ls (v :: v :: rest)) : cg_W E M pc ls (v :: rest) := by
  obtain ⟨p, l, e, R, s, m, args, below, meth, c, Q, g, A, cells, slots⟩ := E
  intro H locs la hH hS hl
  exact lv_dup C.1 C.2.1 d (by rcases v with x | x | x <;> first | rfl | cases hv) (K H locs la hH hS hl)
theorem cr_dup2 {E : cg_E} {cc : ByteArray} {nL : Nat} {own : String} {Ts : List Cond} {rm : Room} (C : cg_C E cc nL own Ts rm) {M : cg_M} {pc : Nat} {ls : List (Option cg_V)} {rest : List cg_V} {v w : cg_V} (d : decode cc pc = .ok (.dup2, 1)) (hv : cg_two v = false) (hw : cg_two w = false) (K : cg_W E M (pc + 1) ls (v :: w :: v :: w :: rest)) : cg_W E M pc ls (v :: w :: rest) := by
  obtain ⟨p, l, e, R, s, m, args, below, meth, c, Q, g, A, cells, slots⟩ := E
  intro H locs la hH hS hl
  exact lv_dup2_11 C.1 C.2.1 d (by rcases v with x | x | x <;> first | rfl | cases hv) (by rcases w with x | x | x <;> first | rfl | cases hw) (K H locs la hH hS hl)
theorem cr_icmp_eq {E : cg_E} {cc : ByteArray} {nL : Nat} {own : String} {Ts : List Cond} {rm : Room} (C : cg_C E cc nL own Ts rm) {M : cg_M} {pc : Nat} {ls : List (Option cg_V)} {rest : List cg_V} {x y : Int32} {off : Int} {tgt : Nat} (d : decode cc pc = .ok (.if_icmp .eq off, 3)) (ht : (pc : Int) + off = (tgt : Int)) (kt : x = y → cg_W E M tgt ls rest) (kf : ¬ x = y → cg_W E M (pc + 3) ls rest) : cg_W E M pc ls (.inl y :: .inl x :: rest) := by
  obtain ⟨p, l, e, R, s, m, args, below, meth, c, Q, g, A, cells, slots⟩ := E
  intro H locs la hH hS hl
  exact lv_icmp_eq C.1 C.2.1 d ht (fun h => kt h H locs la hH hS hl) (fun h => kf h H locs la hH hS hl)
theorem cr_icmp_eq_t {E : cg_E} {cc : ByteArray} {nL : Nat} {own : String} {Ts : List Cond} {rm : Room} (C : cg_C E cc nL own Ts rm) {M : cg_M} {pc : Nat} {ls : List (Option cg_V)} {rest : List cg_V} {x y : Int32} {off : Int} {tgt : Nat} (d : decode cc pc = .ok (.if_icmp .eq off, 3)) (ht : (pc : Int) + off = (tgt : Int)) (h : x = y) (K : cg_W E M tgt ls rest) : cg_W E M pc ls (.inl y :: .inl x :: rest) := cr_icmp_eq C d ht (fun _ => K) (fun h2 => absurd h (by first | exact h2 | exact fun h3 => absurd h2 h3))
theorem cr_icmp_eq_f {E : cg_E} {cc : ByteArray} {nL : Nat} {own : String} {Ts : List Cond} {rm : Room} (C : cg_C E cc nL own Ts rm) {M : cg_M} {pc : Nat} {ls : List (Option cg_V)} {rest : List cg_V} {x y : Int32} {off : Int} {tgt : Nat} (d : decode cc pc = .ok (.if_icmp .eq off, 3)) (ht : (pc : Int) + off = (tgt : Int)) (h : ¬ x = y) (K : cg_W E M (pc + 3) ls rest) : cg_W E M pc ls (.inl y :: .inl x :: rest) := cr_icmp_eq C d ht (fun h2 => absurd h2 (by first | exact h | exact fun h3 => absurd h h3)) (fun _ => K)
theorem cr_if_eq {E : cg_E} {cc : ByteArray} {nL : Nat} {own : String} {Ts : List Cond} {rm : Room} (C : cg_C E cc nL own Ts rm) {M : cg_M} {pc : Nat} {ls : List (Option cg_V)} {rest : List cg_V} {x : Int32} {off : Int} {tgt : Nat} (d : decode cc pc = .ok (.ifCond .eq off, 3)) (ht : (pc : Int) + off = (tgt : Int)) (kt : x = 0 → cg_W E M tgt ls rest) (kf : ¬ x = 0 → cg_W E M (pc + 3) ls rest) : cg_W E M pc ls (.inl x :: rest) := by
  obtain ⟨p, l, e, R, s, m, args, below, meth, c, Q, g, A, cells, slots⟩ := E
  intro H locs la hH hS hl
  exact lv_if_eq C.1 C.2.1 d ht (fun h => kt h H locs la hH hS hl) (fun h => kf h H locs la hH hS hl)
theorem cr_if_eq_t {E : cg_E} {cc : ByteArray} {nL : Nat} {own : String} {Ts : List Cond} {rm : Room} (C : cg_C E cc nL own Ts rm) {M : cg_M} {pc : Nat} {ls : List (Option cg_V)} {rest : List cg_V} {x : Int32} {off : Int} {tgt : Nat} (d : decode cc pc = .ok (.ifCond .eq off, 3)) (ht : (pc : Int) + off = (tgt : Int)) (h : x = 0) (K : cg_W E M tgt ls rest) : cg_W E M pc ls (.inl x :: rest) := cr_if_eq C d ht (fun _ => K) (fun h2 => absurd h (by first | exact h2 | exact fun h3 => absurd h2 h3))
theorem cr_if_eq_f {E : cg_E} {cc : ByteArray} {nL : Nat} {own : String} {Ts : List Cond} {rm : Room} (C : cg_C E cc nL own Ts rm) {M : cg_M} {pc : Nat} {ls : List (Option cg_V)} {rest : List cg_V} {x : Int32} {off : Int} {tgt : Nat} (d : decode cc pc = .ok (.ifCond .eq off, 3)) (ht : (pc : Int) + off = (tgt : Int)) (h : ¬ x = 0) (K : cg_W E M (pc + 3) ls rest) : cg_W E M pc ls (.inl x :: rest) := cr_if_eq C d ht (fun h2 => absurd h2 (by first | exact h | exact fun h3 => absurd h h3)) (fun _ => K)
theorem cr_icmp_ne {E : cg_E} {cc : ByteArray} {nL : Nat} {own : String} {Ts : List Cond} {rm : Room} (C : cg_C E cc nL own Ts rm) {M : cg_M} {pc : Nat} {ls : List (Option cg_V)} {rest : List cg_V} {x y : Int32} {off : Int} {tgt : Nat} (d : decode cc pc = .ok (.if_icmp .ne off, 3)) (ht : (pc : Int) + off = (tgt : Int)) (kt : ¬ x = y → cg_W E M tgt ls rest) (kf : x = y → cg_W E M (pc + 3) ls rest) : cg_W E M pc ls (.inl y :: .inl x :: rest) := by
  obtain ⟨p, l, e, R, s, m, args, below, meth, c, Q, g, A, cells, slots⟩ := E
  intro H locs la hH hS hl
  exact lv_icmp_ne C.1 C.2.1 d ht (fun h => kt h H locs la hH hS hl) (fun h => kf h H locs la hH hS hl)
theorem cr_icmp_ne_t {E : cg_E} {cc : ByteArray} {nL : Nat} {own : String} {Ts : List Cond} {rm : Room} (C : cg_C E cc nL own Ts rm) {M : cg_M} {pc : Nat} {ls : List (Option cg_V)} {rest : List cg_V} {x y : Int32} {off : Int} {tgt : Nat} (d : decode cc pc = .ok (.if_icmp .ne off, 3)) (ht : (pc : Int) + off = (tgt : Int)) (h : ¬ x = y) (K : cg_W E M tgt ls rest) : cg_W E M pc ls (.inl y :: .inl x :: rest) := cr_icmp_ne C d ht (fun _ => K) (fun h2 => absurd h (by first | exact h2 | exact fun h3 => absurd h2 h3))
theorem cr_icmp_ne_f {E : cg_E} {cc : ByteArray} {nL : Nat} {own : String} {Ts : List Cond} {rm : Room} (C : cg_C E cc nL own Ts rm) {M : cg_M} {pc : Nat} {ls : List (Option cg_V)} {rest : List cg_V} {x y : Int32} {off : Int} {tgt : Nat} (d : decode cc pc = .ok (.if_icmp .ne off, 3)) (ht : (pc : Int) + off = (tgt : Int)) (h : x = y) (K : cg_W E M (pc + 3) ls rest) : cg_W E M pc ls (.inl y :: .inl x :: rest) := cr_icmp_ne C d ht (fun h2 => absurd h2 (by first | exact h | exact fun h3 => absurd h h3)) (fun _ => K)
theorem cr_if_ne {E : cg_E} {cc : ByteArray} {nL : Nat} {own : String} {Ts : List Cond} {rm : Room} (C : cg_C E cc nL own Ts rm) {M : cg_M} {pc : Nat} {ls : List (Option cg_V)} {rest : List cg_V} {x : Int32} {off : Int} {tgt : Nat} (d : decode cc pc = .ok (.ifCond .ne off, 3)) (ht : (pc : Int) + off = (tgt : Int)) (kt : ¬ x = 0 → cg_W E M tgt ls rest) (kf : x = 0 → cg_W E M (pc + 3) ls rest) : cg_W E M pc ls (.inl x :: rest) := by
  obtain ⟨p, l, e, R, s, m, args, below, meth, c, Q, g, A, cells, slots⟩ := E
  intro H locs la hH hS hl
  exact lv_if_ne C.1 C.2.1 d ht (fun h => kt h H locs la hH hS hl) (fun h => kf h H locs la hH hS hl)
theorem cr_if_ne_t {E : cg_E} {cc : ByteArray} {nL : Nat} {own : String} {Ts : List Cond} {rm : Room} (C : cg_C E cc nL own Ts rm) {M : cg_M} {pc : Nat} {ls : List (Option cg_V)} {rest : List cg_V} {x : Int32} {off : Int} {tgt : Nat} (d : decode cc pc = .ok (.ifCond .ne off, 3)) (ht : (pc : Int) + off = (tgt : Int)) (h : ¬ x = 0) (K : cg_W E M tgt ls rest) : cg_W E M pc ls (.inl x :: rest) := cr_if_ne C d ht (fun _ => K) (fun h2 => absurd h (by first | exact h2 | exact fun h3 => absurd h2 h3))
theorem cr_if_ne_f {E : cg_E} {cc : ByteArray} {nL : Nat} {own : String} {Ts : List Cond} {rm : Room} (C : cg_C E cc nL own Ts rm) {M : cg_M} {pc : Nat} {ls : List (Option cg_V)} {rest : List cg_V} {x : Int32} {off : Int} {tgt : Nat} (d : decode cc pc = .ok (.ifCond .ne off, 3)) (ht : (pc : Int) + off = (tgt : Int)) (h : x = 0) (K : cg_W E M (pc + 3) ls rest) : cg_W E M pc ls (.inl x :: rest) := cr_if_ne C d ht (fun h2 => absurd h2 (by first | exact h | exact fun h3 => absurd h h3)) (fun _ => K)
theorem cr_icmp_lt {E : cg_E} {cc : ByteArray} {nL : Nat} {own : String} {Ts : List Cond} {rm : Room} (C : cg_C E cc nL own Ts rm) {M : cg_M} {pc : Nat} {ls : List (Option cg_V)} {rest : List cg_V} {x y : Int32} {off : Int} {tgt : Nat} (d : decode cc pc = .ok (.if_icmp .lt off, 3)) (ht : (pc : Int) + off = (tgt : Int)) (kt : x < y → cg_W E M tgt ls rest) (kf : ¬ x < y → cg_W E M (pc + 3) ls rest) : cg_W E M pc ls (.inl y :: .inl x :: rest) := by
  obtain ⟨p, l, e, R, s, m, args, below, meth, c, Q, g, A, cells, slots⟩ := E
  intro H locs la hH hS hl
  exact lv_icmp_lt C.1 C.2.1 d ht (fun h => kt h H locs la hH hS hl) (fun h => kf h H locs la hH hS hl)
theorem cr_icmp_lt_t {E : cg_E} {cc : ByteArray} {nL : Nat} {own : String} {Ts : List Cond} {rm : Room} (C : cg_C E cc nL own Ts rm) {M : cg_M} {pc : Nat} {ls : List (Option cg_V)} {rest : List cg_V} {x y : Int32} {off : Int} {tgt : Nat} (d : decode cc pc = .ok (.if_icmp .lt off, 3)) (ht : (pc : Int) + off = (tgt : Int)) (h : x < y) (K : cg_W E M tgt ls rest) : cg_W E M pc ls (.inl y :: .inl x :: rest) := cr_icmp_lt C d ht (fun _ => K) (fun h2 => absurd h (by first | exact h2 | exact fun h3 => absurd h2 h3))
theorem cr_icmp_lt_f {E : cg_E} {cc : ByteArray} {nL : Nat} {own : String} {Ts : List Cond} {rm : Room} (C : cg_C E cc nL own Ts rm) {M : cg_M} {pc : Nat} {ls : List (Option cg_V)} {rest : List cg_V} {x y : Int32} {off : Int} {tgt : Nat} (d : decode cc pc = .ok (.if_icmp .lt off, 3)) (ht : (pc : Int) + off = (tgt : Int)) (h : ¬ x < y) (K : cg_W E M (pc + 3) ls rest) : cg_W E M pc ls (.inl y :: .inl x :: rest) := cr_icmp_lt C d ht (fun h2 => absurd h2 (by first | exact h | exact fun h3 => absurd h h3)) (fun _ => K)
theorem cr_if_lt {E : cg_E} {cc : ByteArray} {nL : Nat} {own : String} {Ts : List Cond} {rm : Room} (C : cg_C E cc nL own Ts rm) {M : cg_M} {pc : Nat} {ls : List (Option cg_V)} {rest : List cg_V} {x : Int32} {off : Int} {tgt : Nat} (d : decode cc pc = .ok (.ifCond .lt off, 3)) (ht : (pc : Int) + off = (tgt : Int)) (kt : x < 0 → cg_W E M tgt ls rest) (kf : ¬ x < 0 → cg_W E M (pc + 3) ls rest) : cg_W E M pc ls (.inl x :: rest) := by
  obtain ⟨p, l, e, R, s, m, args, below, meth, c, Q, g, A, cells, slots⟩ := E
  intro H locs la hH hS hl
  exact lv_if_lt C.1 C.2.1 d ht (fun h => kt h H locs la hH hS hl) (fun h => kf h H locs la hH hS hl)
theorem cr_if_lt_t {E : cg_E} {cc : ByteArray} {nL : Nat} {own : String} {Ts : List Cond} {rm : Room} (C : cg_C E cc nL own Ts rm) {M : cg_M} {pc : Nat} {ls : List (Option cg_V)} {rest : List cg_V} {x : Int32} {off : Int} {tgt : Nat} (d : decode cc pc = .ok (.ifCond .lt off, 3)) (ht : (pc : Int) + off = (tgt : Int)) (h : x < 0) (K : cg_W E M tgt ls rest) : cg_W E M pc ls (.inl x :: rest) := cr_if_lt C d ht (fun _ => K) (fun h2 => absurd h (by first | exact h2 | exact fun h3 => absurd h2 h3))
theorem cr_if_lt_f {E : cg_E} {cc : ByteArray} {nL : Nat} {own : String} {Ts : List Cond} {rm : Room} (C : cg_C E cc nL own Ts rm) {M : cg_M} {pc : Nat} {ls : List (Option cg_V)} {rest : List cg_V} {x : Int32} {off : Int} {tgt : Nat} (d : decode cc pc = .ok (.ifCond .lt off, 3)) (ht : (pc : Int) + off = (tgt : Int)) (h : ¬ x < 0) (K : cg_W E M (pc + 3) ls rest) : cg_W E M pc ls (.inl x :: rest) := cr_if_lt C d ht (fun h2 => absurd h2 (by first | exact h | exact fun h3 => absurd h h3)) (fun _ => K)
theorem cr_icmp_ge {E : cg_E} {cc : ByteArray} {nL : Nat} {own : String} {Ts : List Cond} {rm : Room} (C : cg_C E cc nL own Ts rm) {M : cg_M} {pc : Nat} {ls : List (Option cg_V)} {rest : List cg_V} {x y : Int32} {off : Int} {tgt : Nat} (d : decode cc pc = .ok (.if_icmp .ge off, 3)) (ht : (pc : Int) + off = (tgt : Int)) (kt : y ≤ x → cg_W E M tgt ls rest) (kf : ¬ y ≤ x → cg_W E M (pc + 3) ls rest) : cg_W E M pc ls (.inl y :: .inl x :: rest) := by
  obtain ⟨p, l, e, R, s, m, args, below, meth, c, Q, g, A, cells, slots⟩ := E
  intro H locs la hH hS hl
  exact lv_icmp_ge C.1 C.2.1 d ht (fun h => kt h H locs la hH hS hl) (fun h => kf h H locs la hH hS hl)
theorem cr_icmp_ge_t {E : cg_E} {cc : ByteArray} {nL : Nat} {own : String} {Ts : List Cond} {rm : Room} (C : cg_C E cc nL own Ts rm) {M : cg_M} {pc : Nat} {ls : List (Option cg_V)} {rest : List cg_V} {x y : Int32} {off : Int} {tgt : Nat} (d : decode cc pc = .ok (.if_icmp .ge off, 3)) (ht : (pc : Int) + off = (tgt : Int)) (h : y ≤ x) (K : cg_W E M tgt ls rest) : cg_W E M pc ls (.inl y :: .inl x :: rest) := cr_icmp_ge C d ht (fun _ => K) (fun h2 => absurd h (by first | exact h2 | exact fun h3 => absurd h2 h3))
theorem cr_icmp_ge_f {E : cg_E} {cc : ByteArray} {nL : Nat} {own : String} {Ts : List Cond} {rm : Room} (C : cg_C E cc nL own Ts rm) {M : cg_M} {pc : Nat} {ls : List (Option cg_V)} {rest : List cg_V} {x y : Int32} {off : Int} {tgt : Nat} (d : decode cc pc = .ok (.if_icmp .ge off, 3)) (ht : (pc : Int) + off = (tgt : Int)) (h : ¬ y ≤ x) (K : cg_W E M (pc + 3) ls rest) : cg_W E M pc ls (.inl y :: .inl x :: rest) := cr_icmp_ge C d ht (fun h2 => absurd h2 (by first | exact h | exact fun h3 => absurd h h3)) (fun _ => K)
theorem cr_if_ge {E : cg_E} {cc : ByteArray} {nL : Nat} {own : String} {Ts : List Cond} {rm : Room} (C : cg_C E cc nL own Ts rm) {M : cg_M} {pc : Nat} {ls : List (Option cg_V)} {rest : List cg_V} {x : Int32} {off : Int} {tgt : Nat} (d : decode cc pc = .ok (.ifCond .ge off, 3)) (ht : (pc : Int) + off = (tgt : Int)) (kt : 0 ≤ x → cg_W E M tgt ls rest) (kf : ¬ 0 ≤ x → cg_W E M (pc + 3) ls rest) : cg_W E M pc ls (.inl x :: rest) := by
  obtain ⟨p, l, e, R, s, m, args, below, meth, c, Q, g, A, cells, slots⟩ := E
  intro H locs la hH hS hl
  exact lv_if_ge C.1 C.2.1 d ht (fun h => kt h H locs la hH hS hl) (fun h => kf h H locs la hH hS hl)
theorem cr_if_ge_t {E : cg_E} {cc : ByteArray} {nL : Nat} {own : String} {Ts : List Cond} {rm : Room} (C : cg_C E cc nL own Ts rm) {M : cg_M} {pc : Nat} {ls : List (Option cg_V)} {rest : List cg_V} {x : Int32} {off : Int} {tgt : Nat} (d : decode cc pc = .ok (.ifCond .ge off, 3)) (ht : (pc : Int) + off = (tgt : Int)) (h : 0 ≤ x) (K : cg_W E M tgt ls rest) : cg_W E M pc ls (.inl x :: rest) := cr_if_ge C d ht (fun _ => K) (fun h2 => absurd h (by first | exact h2 | exact fun h3 => absurd h2 h3))
theorem cr_if_ge_f {E : cg_E} {cc : ByteArray} {nL : Nat} {own : String} {Ts : List Cond} {rm : Room} (C : cg_C E cc nL own Ts rm) {M : cg_M} {pc : Nat} {ls : List (Option cg_V)} {rest : List cg_V} {x : Int32} {off : Int} {tgt : Nat} (d : decode cc pc = .ok (.ifCond .ge off, 3)) (ht : (pc : Int) + off = (tgt : Int)) (h : ¬ 0 ≤ x) (K : cg_W E M (pc + 3) ls rest) : cg_W E M pc ls (.inl x :: rest) := cr_if_ge C d ht (fun h2 => absurd h2 (by first | exact h | exact fun h3 => absurd h h3)) (fun _ => K)
theorem cr_icmp_gt {E : cg_E} {cc : ByteArray} {nL : Nat} {own : String} {Ts : List Cond} {rm : Room} (C : cg_C E cc nL own Ts rm) {M : cg_M} {pc : Nat} {ls : List (Option cg_V)} {rest : List cg_V} {x y : Int32} {off : Int} {tgt : Nat} (d : decode cc pc = .ok (.if_icmp .gt off, 3)) (ht : (pc : Int) + off = (tgt : Int)) (kt : y < x → cg_W E M tgt ls rest) (kf : ¬ y < x → cg_W E M (pc + 3) ls rest) : cg_W E M pc ls (.inl y :: .inl x :: rest) := by
  obtain ⟨p, l, e, R, s, m, args, below, meth, c, Q, g, A, cells, slots⟩ := E
  intro H locs la hH hS hl
  exact lv_icmp_gt C.1 C.2.1 d ht (fun h => kt h H locs la hH hS hl) (fun h => kf h H locs la hH hS hl)
theorem cr_icmp_gt_t {E : cg_E} {cc : ByteArray} {nL : Nat} {own : String} {Ts : List Cond} {rm : Room} (C : cg_C E cc nL own Ts rm) {M : cg_M} {pc : Nat} {ls : List (Option cg_V)} {rest : List cg_V} {x y : Int32} {off : Int} {tgt : Nat} (d : decode cc pc = .ok (.if_icmp .gt off, 3)) (ht : (pc : Int) + off = (tgt : Int)) (h : y < x) (K : cg_W E M tgt ls rest) : cg_W E M pc ls (.inl y :: .inl x :: rest) := cr_icmp_gt C d ht (fun _ => K) (fun h2 => absurd h (by first | exact h2 | exact fun h3 => absurd h2 h3))
theorem cr_icmp_gt_f {E : cg_E} {cc : ByteArray} {nL : Nat} {own : String} {Ts : List Cond} {rm : Room} (C : cg_C E cc nL own Ts rm) {M : cg_M} {pc : Nat} {ls : List (Option cg_V)} {rest : List cg_V} {x y : Int32} {off : Int} {tgt : Nat} (d : decode cc pc = .ok (.if_icmp .gt off, 3)) (ht : (pc : Int) + off = (tgt : Int)) (h : ¬ y < x) (K : cg_W E M (pc + 3) ls rest) : cg_W E M pc ls (.inl y :: .inl x :: rest) := cr_icmp_gt C d ht (fun h2 => absurd h2 (by first | exact h | exact fun h3 => absurd h h3)) (fun _ => K)
theorem cr_if_gt {E : cg_E} {cc : ByteArray} {nL : Nat} {own : String} {Ts : List Cond} {rm : Room} (C : cg_C E cc nL own Ts rm) {M : cg_M} {pc : Nat} {ls : List (Option cg_V)} {rest : List cg_V} {x : Int32} {off : Int} {tgt : Nat} (d : decode cc pc = .ok (.ifCond .gt off, 3)) (ht : (pc : Int) + off = (tgt : Int)) (kt : 0 < x → cg_W E M tgt ls rest) (kf : ¬ 0 < x → cg_W E M (pc + 3) ls rest) : cg_W E M pc ls (.inl x :: rest) := by
  obtain ⟨p, l, e, R, s, m, args, below, meth, c, Q, g, A, cells, slots⟩ := E
  intro H locs la hH hS hl
  exact lv_if_gt C.1 C.2.1 d ht (fun h => kt h H locs la hH hS hl) (fun h => kf h H locs la hH hS hl)
theorem cr_if_gt_t {E : cg_E} {cc : ByteArray} {nL : Nat} {own : String} {Ts : List Cond} {rm : Room} (C : cg_C E cc nL own Ts rm) {M : cg_M} {pc : Nat} {ls : List (Option cg_V)} {rest : List cg_V} {x : Int32} {off : Int} {tgt : Nat} (d : decode cc pc = .ok (.ifCond .gt off, 3)) (ht : (pc : Int) + off = (tgt : Int)) (h : 0 < x) (K : cg_W E M tgt ls rest) : cg_W E M pc ls (.inl x :: rest) := cr_if_gt C d ht (fun _ => K) (fun h2 => absurd h (by first | exact h2 | exact fun h3 => absurd h2 h3))
theorem cr_if_gt_f {E : cg_E} {cc : ByteArray} {nL : Nat} {own : String} {Ts : List Cond} {rm : Room} (C : cg_C E cc nL own Ts rm) {M : cg_M} {pc : Nat} {ls : List (Option cg_V)} {rest : List cg_V} {x : Int32} {off : Int} {tgt : Nat} (d : decode cc pc = .ok (.ifCond .gt off, 3)) (ht : (pc : Int) + off = (tgt : Int)) (h : ¬ 0 < x) (K : cg_W E M (pc + 3) ls rest) : cg_W E M pc ls (.inl x :: rest) := cr_if_gt C d ht (fun h2 => absurd h2 (by first | exact h | exact fun h3 => absurd h h3)) (fun _ => K)
theorem cr_icmp_le {E : cg_E} {cc : ByteArray} {nL : Nat} {own : String} {Ts : List Cond} {rm : Room} (C : cg_C E cc nL own Ts rm) {M : cg_M} {pc : Nat} {ls : List (Option cg_V)} {rest : List cg_V} {x y : Int32} {off : Int} {tgt : Nat} (d : decode cc pc = .ok (.if_icmp .le off, 3)) (ht : (pc : Int) + off = (tgt : Int)) (kt : x ≤ y → cg_W E M tgt ls rest) (kf : ¬ x ≤ y → cg_W E M (pc + 3) ls rest) : cg_W E M pc ls (.inl y :: .inl x :: rest) := by
  obtain ⟨p, l, e, R, s, m, args, below, meth, c, Q, g, A, cells, slots⟩ := E
  intro H locs la hH hS hl
  exact lv_icmp_le C.1 C.2.1 d ht (fun h => kt h H locs la hH hS hl) (fun h => kf h H locs la hH hS hl)
theorem cr_icmp_le_t {E : cg_E} {cc : ByteArray} {nL : Nat} {own : String} {Ts : List Cond} {rm : Room} (C : cg_C E cc nL own Ts rm) {M : cg_M} {pc : Nat} {ls : List (Option cg_V)} {rest : List cg_V} {x y : Int32} {off : Int} {tgt : Nat} (d : decode cc pc = .ok (.if_icmp .le off, 3)) (ht : (pc : Int) + off = (tgt : Int)) (h : x ≤ y) (K : cg_W E M tgt ls rest) : cg_W E M pc ls (.inl y :: .inl x :: rest) := cr_icmp_le C d ht (fun _ => K) (fun h2 => absurd h (by first | exact h2 | exact fun h3 => absurd h2 h3))
theorem cr_icmp_le_f {E : cg_E} {cc : ByteArray} {nL : Nat} {own : String} {Ts : List Cond} {rm : Room} (C : cg_C E cc nL own Ts rm) {M : cg_M} {pc : Nat} {ls : List (Option cg_V)} {rest : List cg_V} {x y : Int32} {off : Int} {tgt : Nat} (d : decode cc pc = .ok (.if_icmp .le off, 3)) (ht : (pc : Int) + off = (tgt : Int)) (h : ¬ x ≤ y) (K : cg_W E M (pc + 3) ls rest) : cg_W E M pc ls (.inl y :: .inl x :: rest) := cr_icmp_le C d ht (fun h2 => absurd h2 (by first | exact h | exact fun h3 => absurd h h3)) (fun _ => K)
theorem cr_if_le {E : cg_E} {cc : ByteArray} {nL : Nat} {own : String} {Ts : List Cond} {rm : Room} (C : cg_C E cc nL own Ts rm) {M : cg_M} {pc : Nat} {ls : List (Option cg_V)} {rest : List cg_V} {x : Int32} {off : Int} {tgt : Nat} (d : decode cc pc = .ok (.ifCond .le off, 3)) (ht : (pc : Int) + off = (tgt : Int)) (kt : x ≤ 0 → cg_W E M tgt ls rest) (kf : ¬ x ≤ 0 → cg_W E M (pc + 3) ls rest) : cg_W E M pc ls (.inl x :: rest) := by
  obtain ⟨p, l, e, R, s, m, args, below, meth, c, Q, g, A, cells, slots⟩ := E
  intro H locs la hH hS hl
  exact lv_if_le C.1 C.2.1 d ht (fun h => kt h H locs la hH hS hl) (fun h => kf h H locs la hH hS hl)
theorem cr_if_le_t {E : cg_E} {cc : ByteArray} {nL : Nat} {own : String} {Ts : List Cond} {rm : Room} (C : cg_C E cc nL own Ts rm) {M : cg_M} {pc : Nat} {ls : List (Option cg_V)} {rest : List cg_V} {x : Int32} {off : Int} {tgt : Nat} (d : decode cc pc = .ok (.ifCond .le off, 3)) (ht : (pc : Int) + off = (tgt : Int)) (h : x ≤ 0) (K : cg_W E M tgt ls rest) : cg_W E M pc ls (.inl x :: rest) := cr_if_le C d ht (fun _ => K) (fun h2 => absurd h (by first | exact h2 | exact fun h3 => absurd h2 h3))
theorem cr_if_le_f {E : cg_E} {cc : ByteArray} {nL : Nat} {own : String} {Ts : List Cond} {rm : Room} (C : cg_C E cc nL own Ts rm) {M : cg_M} {pc : Nat} {ls : List (Option cg_V)} {rest : List cg_V} {x : Int32} {off : Int} {tgt : Nat} (d : decode cc pc = .ok (.ifCond .le off, 3)) (ht : (pc : Int) + off = (tgt : Int)) (h : ¬ x ≤ 0) (K : cg_W E M (pc + 3) ls rest) : cg_W E M pc ls (.inl x :: rest) := cr_if_le C d ht (fun h2 => absurd h2 (by first | exact h | exact fun h3 => absurd h h3)) (fun _ => K)
theorem cr_goto {E : cg_E} {cc : ByteArray} {nL : Nat} {own : String} {Ts : List Cond} {rm : Room} (C : cg_C E cc nL own Ts rm) {M : cg_M} {pc : Nat} {ls : List (Option cg_V)} {rest : List cg_V} {off : Int} {tgt : Nat} (d : decode cc pc = .ok (.goto off, 3)) (ht : (pc : Int) + off = (tgt : Int)) (K : cg_W E M tgt ls rest) : cg_W E M pc ls (rest) := by
  obtain ⟨p, l, e, R, s, m, args, below, meth, c, Q, g, A, cells, slots⟩ := E
  intro H locs la hH hS hl
  exact lv_goto C.1 C.2.1 d ht (K H locs la hH hS hl)
theorem cr_lookup {E : cg_E} {cc : ByteArray} {nL : Nat} {own : String} {Ts : List Cond} {rm : Room} (C : cg_C E cc nL own Ts rm) {M : cg_M} {pc : Nat} {ls : List (Option cg_V)} {rest : List cg_V} {dflt : Int} {ps : Array (Int × Int)} {len : Nat} {x : Int32} {off : Int} {tgt : Nat} (d : decode cc pc = .ok (.lookupswitch dflt ps, len)) (hp : (ps.toList.zip (ps.toList.drop 1)).all (fun (a, next) => a.1 < next.1) = true) (ho : Op.lookupswitch.offset ps.toList dflt x.toInt = off) (ht : (pc : Int) + off = (tgt : Int)) (K : cg_W E M tgt ls rest) : cg_W E M pc ls (.inl x :: rest) := by
  obtain ⟨p, l, e, R, s, m, args, below, meth, c, Q, g, A, cells, slots⟩ := E
  intro H locs la hH hS hl
  exact lv_lookup C.1 C.2.1 d hp ho ht (K H locs la hH hS hl)
theorem cr_lcmp {E : cg_E} {cc : ByteArray} {nL : Nat} {own : String} {Ts : List Cond} {rm : Room} (C : cg_C E cc nL own Ts rm) {M : cg_M} {pc : Nat} {ls : List (Option cg_V)} {rest : List cg_V} {x y : Int64} (d : decode cc pc = .ok (.lcmp, 1)) (K : cg_W E M (pc + 1) ls (.inl (lg_cmp x y) :: rest)) : cg_W E M pc ls (.inr (.inl y) :: .inr (.inl x) :: rest) := by
  obtain ⟨p, l, e, R, s, m, args, below, meth, c, Q, g, A, cells, slots⟩ := E
  intro H locs la hH hS hl
  exact W.lcmp C.1 C.2.1 d (K H locs la hH hS hl)
end CGR
