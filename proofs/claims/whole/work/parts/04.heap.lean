/-! ===== the layer, 3: fields, arrays, ends, calls ===== -/
def cg_T (c : Nat) : vw_C := match c with
  | 0 => (RX0, TX0, 3)
  | 1 => (RX1, TX1, 8)
  | 2 => (RX2, TX2, 12)
  | 3 => (RX3, TX3, 4)
  | _ => (RX4, TX4, 10)
def cg_ty (c : Nat) : Nat → FieldType := match c with
  | 0 => tyX0
  | 1 => tyX1
  | 2 => tyX2
  | 3 => tyX3
  | _ => tyX4
theorem cg_oi_lt {q : cg_L} {c : Nat} (h : cg_oi q = some c) : c < 5 := by
  unfold cg_oi at h
  split at h <;> first | (cases h; done) | (obtain rfl := Option.some.inj h; decide)
theorem cg_T_at {c : Nat} (h : c < 5) : vwCl[c]? = some (cg_T c) := by
  match c, h with
  | 0, _ => rfl
  | 1, _ => rfl
  | 2, _ => rfl
  | 3, _ => rfl
  | 4, _ => rfl
  | c + 5, h => exact absurd h (by omega)
theorem cg_T_nf {c : Nat} (h : c < 5) : (cg_T c).2.2 = cg_nf c := by
  match c, h with
  | 0, _ => rfl
  | 1, _ => rfl
  | 2, _ => rfl
  | 3, _ => rfl
  | 4, _ => rfl
  | c + 5, h => exact absurd h (by omega)
theorem cg_ty_ok {c : Nat} (h : c < 5) : ∀ k, k < (cg_T c).2.2 → parseFieldDescriptor ((cg_T c).2.1 k).2.2.1 = some (cg_ty c k) := by
  match c, h with
  | 0, _ => exact tyX0_ok
  | 1, _ => exact tyX1_ok
  | 2, _ => exact tyX2_ok
  | 3, _ => exact tyX3_ok
  | 4, _ => exact tyX4_ok
  | c + 5, h => exact absurd h (by omega)
theorem cg_nm {c : Nat} (h : c < 5) : ∀ a, a < (cg_T c).2.2 → ∀ b, b < (cg_T c).2.2 → a ≠ b → ((cg_T c).2.1 a).2.1 ≠ ((cg_T c).2.1 b).2.1 := by
  match c, h with
  | 0, _ => exact nmX0
  | 1, _ => exact nmX1
  | 2, _ => exact nmX2
  | 3, _ => exact nmX3
  | 4, _ => exact nmX4
  | c + 5, h => exact absurd h (by omega)
theorem cg_ce_o {g : cg_G} {M : cg_M} {q : cg_L} {c : Nat} (h : cg_oi q = some c) : cg_ce g M q = .inr (c, (List.range (cg_nf c)).map (cg_fv g.2.2 M q)) := by
  unfold cg_ce
  rw [h]
theorem cg_ai_oi {q : cg_L} {b n : Nat} {f : Nat → Nat} (h : cg_ai q = some (b, n, f)) : cg_oi q = none := by
  unfold cg_ai at h
  split at h <;> first | (cases h; done) | rfl
theorem cg_ri_oi {q : cg_L} {n : Nat} {f : Nat → cg_L} (h : cg_ri q = some (n, f)) : cg_oi q = none ∧ cg_ai q = none := by
  unfold cg_ri at h
  split at h <;> first | (cases h; done) | exact ⟨rfl, rfl⟩
theorem cg_ce_a {g : cg_G} {M : cg_M} {q : cg_L} {b n : Nat} {f : Nat → Nat} (h : cg_ai q = some (b, n, f)) : cg_ce g M q = .inl (g.2.1.1, n, .inl (fun j => M b (f j))) := by
  unfold cg_ce
  rw [cg_ai_oi h, h]
theorem cg_ce_r {g : cg_G} {M : cg_M} {q : cg_L} {n : Nat} {f : Nat → cg_L} (h : cg_ri q = some (n, f)) : cg_ce g M q = .inl (if q.1 = 2 then g.2.1.2.2 else g.2.1.2.1, n, .inr (.inr (.inr (.inr (fun j => if j < n then some (g.2.2 (f j)) else none))))) := by
  unfold cg_ce
  rw [(cg_ri_oi h).1, (cg_ri_oi h).2, h]
theorem cg_one {D : va_G} {cl : List vw_C} {x : Nat × va_E} {H : Heap} (h : va_at D cl x H) : va_P D cl [x] H := by
  intro k q hk
  match k, hk with
  | 0, hk => cases hk; exact h
  | k + 1, hk => simp at hk
section CGH
variable {E : cg_E} {cc : ByteArray} {nL : Nat} {own : String} {Ts : List Cond} {rm : Room} {M : cg_M} {pc : Nat} {ls : List (Option cg_V)} {rest : List cg_V}
theorem cr_get0 (C : cg_C E cc nL own Ts rm) {q : cg_L} {c k index : Nat} {v : cg_V} (hq : cg_ok q = true) (ho : cg_oi q = some c) (hk : k < cg_nf c) (hv : ∀ ad, cg_fv ad M q k = cg_vv ad v) (hin : ∀ w ∈ u_ws (cg_T c).1 (cg_T c).2.1 (cg_T c).2.2, w ∈ Ts) (hw : Cond.fieldLink own index ((cg_T c).2.1 k).1 ((cg_T c).2.1 k).2.1 ((cg_T c).2.1 k).2.2.1 ∈ Ts) (d : decode cc pc = .ok (.getfield index, 3)) (K : cg_W E M (pc + 3) ls (v :: rest)) : cg_W E M pc ls (.inr (.inr q) :: rest) := by
  obtain ⟨p, l, e, R, s, m, args, below, meth, c0, Q, g, A, cells, slots⟩ := E
  intro H locs la hH hS hl
  have h1 := hH q hq
  rw [cg_ce_o ho] at h1
  refine va_get (D := g.1) (cl := vwCl) (C := (cg_T c).1) (T := (cg_T c).2.1) (N := (cg_T c).2.2) C.1 C.2.1 C.2.2.2.2.1 hin C.2.2.2.1 C.2.2.2.2.2.1 (cg_one h1) 0 rfl (cg_T_at (cg_oi_lt ho)) k (by rw [cg_T_nf (cg_oi_lt ho)]; exact hk) (C.2.2.2.2.1 _ hw) (fun _ h => h) (v := cg_vv g.2.2 v) ?_ d (K H locs la hH hS hl)
  rw [List.getElem?_map, List.getElem?_range hk, ← hv]
  rfl
theorem cr_geti (C : cg_C E cc nL own Ts rm) {q : cg_L} {c k index b x : Nat} (hq : cg_ok q = true) (ho : cg_oi q = some c) (hk : k < cg_nf c) (hr : cg_fr q k = none) (hf : cg_fi q k = (b, x)) (hin : ∀ w ∈ u_ws (cg_T c).1 (cg_T c).2.1 (cg_T c).2.2, w ∈ Ts) (hw : Cond.fieldLink own index ((cg_T c).2.1 k).1 ((cg_T c).2.1 k).2.1 ((cg_T c).2.1 k).2.2.1 ∈ Ts) (d : decode cc pc = .ok (.getfield index, 3)) (K : cg_W E M (pc + 3) ls (.inl (M b x) :: rest)) : cg_W E M pc ls (.inr (.inr q) :: rest) :=
  cr_get0 C (v := .inl (M b x)) hq ho hk (fun ad => by unfold cg_fv; rw [hr, hf]; rfl) hin hw d K
theorem cr_getr (C : cg_C E cc nL own Ts rm) {q t : cg_L} {c k index : Nat} (hq : cg_ok q = true) (ho : cg_oi q = some c) (hk : k < cg_nf c) (hr : cg_fr q k = some t) (hin : ∀ w ∈ u_ws (cg_T c).1 (cg_T c).2.1 (cg_T c).2.2, w ∈ Ts) (hw : Cond.fieldLink own index ((cg_T c).2.1 k).1 ((cg_T c).2.1 k).2.1 ((cg_T c).2.1 k).2.2.1 ∈ Ts) (d : decode cc pc = .ok (.getfield index, 3)) (K : cg_W E M (pc + 3) ls (.inr (.inr t) :: rest)) : cg_W E M pc ls (.inr (.inr q) :: rest) :=
  cr_get0 C (v := .inr (.inr t)) hq ho hk (fun ad => by unfold cg_fv; rw [hr]; rfl) hin hw d K
theorem cr_puti (C : cg_C E cc nL own Ts rm) {q : cg_L} {c k index b x : Nat} {y : Int32} (hq : cg_ok q = true) (ho : cg_oi q = some c) (hk : k < cg_nf c) (hr : cg_fr q k = none) (hf : cg_fi q k = (b, x)) (hin : ∀ w ∈ u_ws (cg_T c).1 (cg_T c).2.1 (cg_T c).2.2, w ∈ Ts) (hw : Cond.fieldLink own index ((cg_T c).2.1 k).1 ((cg_T c).2.1 k).2.1 ((cg_T c).2.1 k).2.2.1 ∈ Ts) (hfin : ((cg_T c).2.1 k).2.2.2 = false) (hn : narrow (cg_ty c k) (.int y) = .int y) (hfit : fits (cg_ty c k) (.int y) = true) (d : decode cc pc = .ok (.putfield index, 3)) (K : cg_W E (cg_up M b x y) (pc + 3) ls rest) : cg_W E M pc ls (.inl y :: .inr (.inr q) :: rest) := by
  obtain ⟨p, l, e, R, s, m, args, below, meth, c0, Q, g, A, cells, slots⟩ := E
  intro H locs la hH hS hl
  obtain ⟨i, hi, hi2⟩ := cg_wd_at (g := g) (M := M) hq
  rw [cg_ce_o ho] at hi
  have hc := cg_oi_lt ho
  have hN : k < (cg_T c).2.2 := by rw [cg_T_nf hc]; exact hk
  refine va_put (D := g.1) (cl := vwCl) (C := (cg_T c).1) (T := (cg_T c).2.1) (N := (cg_T c).2.2) C.1 C.2.1 C.2.2.2.2.1 hin (cg_ty c) (cg_ty_ok hc) (cg_nm hc) C.2.2.2.1 C.2.2.2.2.2.1 (cg_wd_P hH) (cg_wd_D C.2.2.2.2.2.2.2.1 C.2.2.2.2.2.2.2.2.1) hS i hi (cg_T_at hc) k hN (C.2.2.2.2.1 _ hw) (fun _ h => h) hfin (cg_ty_ok hc k hN) hn hfit (by rw [List.length_map, List.length_range]; exact hk) d (fun H1 locs1 hP1 _ hS1 => K H1 locs1 la ?_ hS1 hl)
  obtain ⟨h1, h2⟩ := cg_wd_set hi2 hP1
  have how : cg_ow b x = (q, k) := by have := cg_ow_fi hq ho hk hr; rw [hf] at this; exact this
  refine cg_H_up how ?_ h2
  rw [cg_ce_o ho]
  have e : (List.range (cg_nf c)).map (cg_fv g.2.2 (cg_up M b x y) q) = ((List.range (cg_nf c)).map (cg_fv g.2.2 M q)).set k (.int y) := by
    apply List.ext_getElem?
    intro j
    by_cases hj : j < cg_nf c
    · rw [List.getElem?_map, List.getElem?_range hj]
      by_cases hjk : k = j
      · subst hjk
        rw [List.getElem?_set_self (by rw [List.length_map, List.length_range]; exact hk)]
        simp only [Option.map_some, cg_fv, hr, hf, cg_up_at, and_self, if_true]
      · rw [List.getElem?_set_ne hjk, List.getElem?_map, List.getElem?_range hj]
        simp only [Option.map_some, Option.some.injEq, cg_fv]
        cases hrj : cg_fr q j with
        | some t => rfl
        | none =>
          simp only [Value.int.injEq]
          refine cg_up_ne ?_
          rw [how, cg_ow_fi hq ho hj hrj]
          exact fun e => hjk (congrArg Prod.snd e).symm
    · rw [List.getElem?_eq_none (by rw [List.length_map, List.length_range]; omega), List.getElem?_eq_none (by rw [List.length_set, List.length_map, List.length_range]; omega)]
  rw [e]
  exact h1
theorem cr_iaload (C : cg_C E cc nL own Ts rm) {q : cg_L} {b n k : Nat} {f : Nat → Nat} (ha : cg_ai q = some (b, n, f)) (hq : cg_ok q = true) (hk : k < n) (hn : n < 2147483648) (d : decode cc pc = .ok (.iaload, 1)) (K : cg_W E M (pc + 1) ls (.inl (M b (f k)) :: rest)) : cg_W E M pc ls (.inl (nI k) :: .inr (.inr q) :: rest) := by
  obtain ⟨p, l, e, R, s, m, args, below, meth, c0, Q, g, A, cells, slots⟩ := E
  intro H locs la hH hS hl
  have h1 := hH q hq
  rw [cg_ce_a ha] at h1
  refine va_iald (D := g.1) (cl := vwCl) C.1 C.2.1 C.2.2.2.2.2.1 (cg_one h1) 0 0 rfl rfl (vp_in_nI hk hn) d ?_
  have hk2 : k < 2 ^ 31 := by omega
  rw [nI_clamp hk2]
  exact K H locs la hH hS hl
theorem cr_iastore (C : cg_C E cc nL own Ts rm) {q : cg_L} {b n k : Nat} {f : Nat → Nat} {y : Int32} (ha : cg_ai q = some (b, n, f)) (hq : cg_ok q = true) (hk : k < n) (hn : n < 2147483648) (d : decode cc pc = .ok (.iastore, 1)) (K : cg_W E (cg_up M b (f k) y) (pc + 1) ls rest) : cg_W E M pc ls (.inl y :: .inl (nI k) :: .inr (.inr q) :: rest) := by
  obtain ⟨p, l, e, R, s, m, args, below, meth, c0, Q, g, A, cells, slots⟩ := E
  intro H locs la hH hS hl
  obtain ⟨i, hi, hi2⟩ := cg_wd_at (g := g) (M := M) hq
  rw [cg_ce_a ha] at hi
  have hk2 : k < 2 ^ 31 := by omega
  refine va_iast (D := g.1) (cl := vwCl) C.1 C.2.1 C.2.2.2.2.2.1 (cg_wd_P hH) (cg_wd_D C.2.2.2.2.2.2.2.1 C.2.2.2.2.2.2.2.2.1) hS i 0 hi rfl (vp_in_nI hk hn) d (fun H1 locs1 hP1 _ hS1 => K H1 locs1 la ?_ hS1 hl)
  obtain ⟨h1, h2⟩ := cg_wd_set hi2 hP1
  refine cg_H_up (cg_ow_ai hq ha hk) ?_ h2
  rw [cg_ce_a ha]
  rw [nI_clamp hk2] at h1
  have e : va_at g.1 vwCl (g.2.2 q, .inl (g.2.1.1, n, .inl (fun j => cg_up M b (f k) y b (f j)))) H1 = va_at g.1 vwCl (g.2.2 q, .inl (g.2.1.1, n, .inl (upd (fun j => M b (f j)) k y))) H1 := by
    simp only [va_at, vp_cell_i]
    rw [cg_arrV (f := fun j => Value.int (cg_up M b (f k) y b (f j))) (f' := fun j => Value.int (upd (fun j => M b (f j)) k y j))]
    intro j hj
    by_cases hjk : j = k
    · subst hjk
      simp [cg_up_at, upd]
    · rw [cg_up_ne (by rw [cg_ow_ai hq ha hj, cg_ow_ai hq ha hk]; exact fun e => hjk (congrArg Prod.snd e))]
      simp [upd, hjk]
  rw [e]
  exact h1
theorem cr_aaload (C : cg_C E cc nL own Ts rm) {q : cg_L} {n k : Nat} {f : Nat → cg_L} (ha : cg_ri q = some (n, f)) (hq : cg_ok q = true) (hk : k < n) (hn : n < 2147483648) (d : decode cc pc = .ok (.aaload, 1)) (K : cg_W E M (pc + 1) ls (.inr (.inr (f k)) :: rest)) : cg_W E M pc ls (.inl (nI k) :: .inr (.inr q) :: rest) := by
  obtain ⟨p, l, e, R, s, m, args, below, meth, c0, Q, g, A, cells, slots⟩ := E
  intro H locs la hH hS hl
  have h1 := hH q hq
  rw [cg_ce_r ha] at h1
  have hk2 : k < 2 ^ 31 := by omega
  have hK := C.2.2.2.2.2.1
  have hin : ¬ ((nI k) < 0 ∨ n ≤ (nI k).toNatClampNeg) := vp_in_nI hk hn
  have hv : va_rf (if k < n then some (g.2.2 (f k)) else none) = cg_vv g.2.2 (.inr (.inr (f k))) := by rw [if_pos hk]; rfl
  have hv2 := K H locs la hH hS hl
  have h1 : H[g.2.2 q]? = some (arrV (if q.1 = 2 then g.2.1.2.2 else g.2.1.2.1) n (fun j => va_rf (if j < n then some (g.2.2 (f j)) else none))) := h1
  by_cases h2 : q.1 = 2
  · rw [if_pos h2] at h1
    refine W.aald (v := cg_vv g.2.2 (.inr (.inr (f k)))) (ty := .object RX2) C.1 C.2.1 h1 ((hK.2 2 _ rfl).1 n _) rfl (fun q => by cases q) (by rw [arrV_size]; exact hin) ?_ rfl rfl d hv2
    rw [nI_clamp hk2, arrV_read _ _ hk, hv]
  · rw [if_neg h2] at h1
    refine W.aald (v := cg_vv g.2.2 (.inr (.inr (f k)))) (ty := .array .int) C.1 C.2.1 h1 ((hK.2 1 _ rfl).1 n _) rfl (fun q => by cases q) (by rw [arrV_size]; exact hin) ?_ rfl rfl d hv2
    rw [nI_clamp hk2, arrV_read _ _ hk, hv]
theorem cr_alen (C : cg_C E cc nL own Ts rm) {q : cg_L} {b n : Nat} {f : Nat → Nat} (ha : cg_ai q = some (b, n, f)) (hq : cg_ok q = true) (d : decode cc pc = .ok (.arraylength, 1)) (K : cg_W E M (pc + 1) ls (.inl (nI n) :: rest)) : cg_W E M pc ls (.inr (.inr q) :: rest) := by
  obtain ⟨p, l, e, R, s, m, args, below, meth, c0, Q, g, A, cells, slots⟩ := E
  intro H locs la hH hS hl
  have h1 := hH q hq
  rw [cg_ce_a ha] at h1
  exact va_alen (D := g.1) (cl := vwCl) C.1 C.2.1 C.2.2.2.2.2.1 (cg_one h1) 0 0 rfl rfl (v := nI n) rfl d (K H locs la hH hS hl)
theorem cr_alenr (C : cg_C E cc nL own Ts rm) {q : cg_L} {n : Nat} {f : Nat → cg_L} (ha : cg_ri q = some (n, f)) (hq : cg_ok q = true) (h2 : ¬ q.1 = 2) (d : decode cc pc = .ok (.arraylength, 1)) (K : cg_W E M (pc + 1) ls (.inl (nI n) :: rest)) : cg_W E M pc ls (.inr (.inr q) :: rest) := by
  obtain ⟨p, l, e, R, s, m, args, below, meth, c0, Q, g, A, cells, slots⟩ := E
  intro H locs la hH hS hl
  have h1 := hH q hq
  rw [cg_ce_r ha, if_neg h2] at h1
  exact va_alen (D := g.1) (cl := vwCl) C.1 C.2.1 C.2.2.2.2.2.1 (cg_one h1) 0 1 rfl rfl (v := nI n) rfl d (K H locs la hH hS hl)
theorem cr_max (C : cg_C E cc nL own Ts rm) {x y : Int32} {index : Nat} (d : decode cc pc = .ok (.invokestatic index, 3)) (hw : Cond.methodLink own index Lib.Math.max.name ∈ Ts ∧ Cond.static Lib.Math.max.name ∈ Ts ∧ Cond.initialized "java/lang/Math" ∈ Ts ∧ Cond.code Lib.Math.max.name Lib.Math.max.code 2 (some .int) ∈ Ts) (hr : 1 ≤ rm.frames ∧ 21 ≤ rm.locals) (hst : (rest.map fun v => if cg_two v then 2 else 1).sum ≤ 8) (K : cg_W E M (pc + 3) ls (.inl (if x < y then y else x) :: rest)) : cg_W E M pc ls (.inl y :: .inl x :: rest) := by
  obtain ⟨p, l, e, R, s, m, args, below, meth, c0, Q, g, A, cells, slots⟩ := E
  intro H locs la hH hS hl
  have ht := C.2.2.2.2.1
  have hR : R = rm := C.2.2.2.2.2.2.2.2.2.1
  have hsum : ((rest.map (cg_vv g.2.2)).map fun v => v.category).sum = (rest.map fun v => if cg_two v then 2 else 1).sum := by
    rw [List.map_map]
    congr 1
    apply List.map_congr_left
    intro v _
    rcases v with x | x | x <;> rfl
  exact va_mmax C.1 C.2.1 hl.1.symm C.2.2.2.1 (ht _ hw.1) (ht _ hw.2.1) (ht _ hw.2.2.1) (ht _ hw.2.2.2) (by rw [hR]; exact hr.1) (by rw [hR, hsum]; have := hr.2; omega) C.2.2.2.2.2.2.2.2.2.2.1 C.2.2.2.2.2.2.2.2.2.2.2 d (K H locs la hH hS hl)
theorem cr_min (C : cg_C E cc nL own Ts rm) {x y : Int32} {index : Nat} (d : decode cc pc = .ok (.invokestatic index, 3)) (hw : Cond.methodLink own index Lib.Math.min.name ∈ Ts ∧ Cond.static Lib.Math.min.name ∈ Ts ∧ Cond.initialized "java/lang/Math" ∈ Ts ∧ Cond.code Lib.Math.min.name Lib.Math.min.code 2 (some .int) ∈ Ts) (hr : 1 ≤ rm.frames ∧ 21 ≤ rm.locals) (hst : (rest.map fun v => if cg_two v then 2 else 1).sum ≤ 8) (K : cg_W E M (pc + 3) ls (.inl (if y < x then y else x) :: rest)) : cg_W E M pc ls (.inl y :: .inl x :: rest) := by
  obtain ⟨p, l, e, R, s, m, args, below, meth, c0, Q, g, A, cells, slots⟩ := E
  intro H locs la hH hS hl
  have ht := C.2.2.2.2.1
  have hR : R = rm := C.2.2.2.2.2.2.2.2.2.1
  have hsum : ((rest.map (cg_vv g.2.2)).map fun v => v.category).sum = (rest.map fun v => if cg_two v then 2 else 1).sum := by
    rw [List.map_map]
    congr 1
    apply List.map_congr_left
    intro v _
    rcases v with x | x | x <;> rfl
  exact va_mmin C.1 C.2.1 hl.1.symm C.2.2.2.1 (ht _ hw.1) (ht _ hw.2.1) (ht _ hw.2.2.1) (ht _ hw.2.2.2) (by rw [hR]; exact hr.1) (by rw [hR, hsum]; have := hr.2; omega) C.2.2.2.2.2.2.2.2.2.2.1 C.2.2.2.2.2.2.2.2.2.2.2 d (K H locs la hH hS hl)
end CGH
/-! the contract of a method: from memory M and the arguments as it comes to an end with post -/
def cg_Ag (g : cg_G) : Nat → Prop := fun a => ∃ q : cg_L, cg_ok q = true ∧ a = g.2.2 q
def cg_Pre (g : cg_G) (as : List cg_V) (M : cg_M) : Array Value → State → Prop := va_Pc (as.map (cg_vv g.2.2)) (fun U => cg_H g M U.heap ∧ va_K g.1 vwCl (cg_tys g) U ∧ cg_N U ∧ cg_inj g)
def cg_Q (g : cg_G) (post : Option cg_V → cg_M → Prop) : Array Value → State → Outcome → State → Prop := fun _ st oc t => (∃ (v : Option cg_V) (M' : cg_M), oc = .returned (v.map (cg_vv g.2.2)) ∧ post v M' ∧ cg_H g M' t.heap) ∧ va_F (cg_Ag g) st t
def cg_S (y : MethodName) (ws : List Cond) (rm : Room) (as : List cg_V) (M : cg_M) (post : Option cg_V → cg_M → Prop) : Prop := ∀ (l : Launch) (g : cg_G), Met l y ws rm (cg_Pre g as M) (cg_Q g post) 0 0 (cg_Ag g)
/-- what the end of a method needs -/
def cg_R (E : cg_E) (ret : Option FieldType) (post : Option cg_V → cg_M → Prop) : Prop := match E with
  | (_, _, _, _, s, _, args, below, meth, _, Q, g, A, cells, slots) => meth.sig.returnType = ret ∧ meth.locks = false ∧ A = cg_Ag g ∧ Q = MQ below (cg_Q g post) args s cells slots (cg_Ag g)
theorem cg_N.moved {s U : State} (hW : s.WarmedH U.vm) (h : cg_N s) : cg_N U := by
  intro w hw
  have h1 := h w hw
  simp only [cg_nests, List.mem_cons, List.not_mem_nil, or_false] at hw
  rcases hw with rfl | rfl | rfl | rfl | rfl | rfl | rfl | rfl <;> exact va_Nw.warmM hW h1
theorem cg_N.same {s U : State} (hW : s.vm = U.vm) (h : cg_N s) : cg_N U := by
  intro w hw
  have h1 := h w hw
  simp only [cg_nests, List.mem_cons, List.not_mem_nil, or_false] at hw
  rcases hw with rfl | rfl | rfl | rfl | rfl | rfl | rfl | rfl <;> exact va_Nw.same rfl hW h1
theorem cg_blind (g : cg_G) (as : List cg_V) (M : cg_M) : FrameBlind (cg_Pre g as M) := fun a U g' mk q => by
  obtain ⟨q0, q1, q2, q3, q4⟩ := q
  exact ⟨q0, q1, va_K.moved (u := U) (U := U.calling g' mk a) (Vm.Alike.refl U.vm) q2, cg_N.same (s := U) (U := U.calling g' mk a) rfl q3, q4⟩
section CGE
variable {E : cg_E} {cc : ByteArray} {nL : Nat} {own : String} {Ts : List Cond} {rm : Room} {M : cg_M} {pc : Nat} {ls : List (Option cg_V)} {post : Option cg_V → cg_M → Prop}
theorem cr_ireturn (C : cg_C E cc nL own Ts rm) {x : Int32} (X : cg_R E (some .int) post) (d : decode cc pc = .ok (.ireturn, 1)) (h : post (some (.inl x)) M) : cg_W E M pc ls [.inl x] := by
  obtain ⟨p, l, e, R, s, m, args, below, meth, c0, Q, g, A, cells, slots⟩ := E
  intro H locs la hH hS hl
  obtain ⟨h1, hlocks, rfl, rfl⟩ := X
  exact W.iret C.1 C.2.1 h1 (fun t ht hW => ⟨⟨some (.inl x), M, rfl, h, by rw [ht]; exact hH⟩, hS.F ht⟩) (fun q hq => hS.2.2 q hq) d hlocks
theorem cr_zreturn (C : cg_C E cc nL own Ts rm) {x : Int32} (X : cg_R E (some .boolean) post) (d : decode cc pc = .ok (.ireturn, 1)) (hx : x = 0 ∨ x = 1) (h : post (some (.inl x)) M) : cg_W E M pc ls [.inl x] := by
  obtain ⟨p, l, e, R, s, m, args, below, meth, c0, Q, g, A, cells, slots⟩ := E
  intro H locs la hH hS hl
  obtain ⟨h1, hlocks, rfl, rfl⟩ := X
  exact W.zret C.1 C.2.1 h1 (by rcases hx with rfl | rfl <;> rfl) (fun t ht hW => ⟨⟨some (.inl x), M, rfl, h, by rw [ht]; exact hH⟩, hS.F ht⟩) (fun q hq => hS.2.2 q hq) d hlocks
theorem cr_lreturn (C : cg_C E cc nL own Ts rm) {x : Int64} (X : cg_R E (some .long) post) (d : decode cc pc = .ok (.lreturn, 1)) (h : post (some (.inr (.inl x))) M) : cg_W E M pc ls [.inr (.inl x)] := by
  obtain ⟨p, l, e, R, s, m, args, below, meth, c0, Q, g, A, cells, slots⟩ := E
  intro H locs la hH hS hl
  obtain ⟨h1, hlocks, rfl, rfl⟩ := X
  exact W.lret C.1 C.2.1 h1 (fun t ht hW => ⟨⟨some (.inr (.inl x)), M, rfl, h, by rw [ht]; exact hH⟩, hS.F ht⟩) (fun q hq => hS.2.2 q hq) d hlocks
theorem cr_return (C : cg_C E cc nL own Ts rm) (X : cg_R E none post) (d : decode cc pc = .ok (.return_, 1)) (h : post none M) : cg_W E M pc ls [] := by
  obtain ⟨p, l, e, R, s, m, args, below, meth, c0, Q, g, A, cells, slots⟩ := E
  intro H locs la hH hS hl
  obtain ⟨h1, hlocks, rfl, rfl⟩ := X
  exact W.vret C.1 C.2.1 h1 (fun t ht hW => ⟨⟨none, M, rfl, h, by rw [ht]; exact hH⟩, hS.F ht⟩) (fun q hq => hS.2.2 q hq) d hlocks
end CGE
/-- the frame's variables at a method's entry -/
def cg_en : List cg_V → List (Option cg_V)
  | [] => []
  | v :: r => if cg_two v then some v :: none :: cg_en r else some v :: cg_en r
theorem cg_en_lv (ad : cg_L → Nat) : ∀ (as : List cg_V) (i : Nat), lv_args i (as.map (cg_vv ad)) = cg_lv ad i (cg_en as)
  | [], _ => rfl
  | v :: r, i => by
    rcases v with x | x | x
    · show (i, _) :: lv_args (i + 1) _ = (i, _) :: cg_lv ad (i + 1) _
      rw [cg_en_lv ad r]
    · show (i, _) :: lv_args (i + 2) _ = (i, _) :: cg_lv ad (i + 1 + 1) _
      rw [cg_en_lv ad r]
    · show (i, _) :: lv_args (i + 1) _ = (i, _) :: cg_lv ad (i + 1) _
      rw [cg_en_lv ad r]
theorem cg_lv_pad (ad : cg_L → Nat) (n : Nat) : ∀ (ls : List (Option cg_V)) (i : Nat), cg_lv ad i (ls ++ List.replicate n none) = cg_lv ad i ls
  | [], i => by
    induction n generalizing i with
    | zero => rfl
    | succ n ih => exact ih (i + 1)
  | none :: r, i => cg_lv_pad ad n r (i + 1)
  | some v :: r, i => by
    show (i, cg_vv ad v) :: cg_lv ad (i + 1) (r ++ List.replicate n none) = (i, cg_vv ad v) :: cg_lv ad (i + 1) r
    rw [cg_lv_pad ad n r (i + 1)]
theorem cg_en_len (ad : cg_L → Nat) : ∀ as : List cg_V, (lg_sl (as.map (cg_vv ad))).length = (cg_en as).length
  | [] => rfl
  | v :: r => by
    have ih := cg_en_len ad r
    rcases v with x | x | x <;> simp [lg_sl, cg_en, cg_vv, cg_two, Value.category] at ih ⊢ <;> omega
theorem cg_S_of {y : MethodName} {cc : ByteArray} {maxL : Nat} {ret : Option FieldType} {ws ws' : List Cond} {rm : Room} {as : List cg_V} {M : cg_M} {post : Option cg_V → cg_M → Prop} {ls0 : List (Option cg_V)} (own : String) (hown : y.cls = own) (hy : plainName y.cls = true) (hw : ws = Cond.code y cc maxL ret :: ws') (hls : cg_en as ++ List.replicate (maxL - (cg_en as).length) none = ls0) (hlen : (cg_en as).length ≤ maxL)
    (body : ∀ E : cg_E, cg_C E cc maxL own ws rm → cg_R E ret post → cg_W E M 0 ls0 []) : cg_S y ws rm as M post := by
  intro l g
  refine Met.ofW (cc := cc) (maxL := maxL) (ret := ret) hy hw ?_
  intro p e s m args below meth c s₁ B hml hv
  obtain ⟨rfl, h1, h2, h3, h4⟩ := hv
  have hts := atoms_spec (ws := ws) B.pre
  have hown2 : s.vm.findClass y.cls = some m.cls := findClass_of_methodNamed B.named
  rw [hown] at hown2
  have hb := body (p, l, e, rm, s, m, (as.map (cg_vv g.2.2)).toArray, below, meth, c, MQ below (cg_Q g post) (as.map (cg_vv g.2.2)).toArray s 0 0 (cg_Ag g), g, cg_Ag g, 0, 0) ⟨B.exec, B.bytes, hml, hown2, hts, h2, h3, h4, fun q hq => ⟨q, hq, rfl⟩, rfl, Nat.zero_le _, Nat.zero_le _⟩ ⟨B.returns, B.notSynchronized, rfl, rfl⟩
  rw [lg_entry_eq]
  refine hb s.heap [] _ h1 va_S.rf ?_
  have hl := lv_entry (as.map (cg_vv g.2.2)) (n := maxL) (by rw [cg_en_len]; exact hlen)
  rw [cg_en_lv] at hl
  rw [← hls, cg_lv_pad]
  show lv_has _ c.maxLocals _
  rw [hml]
  exact hl
section CGC
variable {E : cg_E} {cc : ByteArray} {nL : Nat} {own : String} {Ts : List Cond} {rm : Room} {M : cg_M} {pc : Nat} {ls : List (Option cg_V)} {rest st : List cg_V} {post : Option cg_V → cg_M → Prop}
theorem cg_sum (ad : cg_L → Nat) (rest : List cg_V) : ((rest.map (cg_vv ad)).map fun v => v.category).sum = (rest.map fun v => if cg_two v then 2 else 1).sum := by
  rw [List.map_map]
  congr 1
  apply List.map_congr_left
  intro v _
  rcases v with x | x | x <;> rfl
/-- behind a call, whatever its kind -/
theorem cg_run {p : Program} {l : Launch} {e : Env} {R : Room} {s : State} {m : MethodId} {args : Array Value} {below : List Frame} {meth : Method} {c : Code} {Q : State → Prop} {g : cg_G} {A : Nat → Prop} {cells slots : Nat} {H : Heap} {locs : List Loc} {la : Array Slot} {st0 : List Value} {a : Array Value}
    (hr : va_Run p l e R s m args below meth c H locs cells slots 0 0 (F0 m pc la st0) (rest.map (cg_vv g.2.2)) (cg_Q g post a) (cg_Ag g)) (hS : va_S A s.heap H locs) (hA : ∀ q : cg_L, cg_ok q = true → A (g.2.2 q)) (hl : lv_has la c.maxLocals (cg_lv g.2.2 0 ls))
    (K : ∀ v M', post v M' → cg_W (p, l, e, R, s, m, args, below, meth, c, Q, g, A, cells, slots) M' (pc + 3) ls (v.toList ++ rest)) : W p l e R s m args below meth c H locs cells slots Q (F0 m pc la st0) := by
  intro T hT X
  obtain ⟨v, st₀, t, T', L, h0, X', hL, e1, e2, ⟨⟨w, M', hv, hp, hb⟩, hz, hk⟩, st⟩ := hr T hT X
  have hv : v = w.map (cg_vv g.2.2) := by simpa using hv
  rw [h0] at hz hk
  have hAg : ∀ q, cg_Ag g q → A q := fun q hq => by obtain ⟨x, hx, rfl⟩ := hq; exact hA x hx
  have hS1 : va_S A s.heap T'.heap (locs ++ L) := ⟨Nat.le_trans hS.1 (by rw [e1]; exact hz), fun q h1 h2 => by rw [e1, hk q (Nat.lt_of_lt_of_le h1 hS.1) (fun z => h2 (hAg q z))]; exact hS.2.1 q h1 h2, fun q hq => by
      rcases List.mem_append.mp hq with h | h
      · exact hS.2.2 q h
      · exact hAg _ (hL q h)⟩
  obtain ⟨t2, a1, b1⟩ := K w M' hp T'.heap (locs ++ L) la (by rw [e1]; exact hb) hS1 hl T' rfl X'
  refine ⟨t2, st t2 ?_, b1⟩
  have e3 : v.toList ++ rest.map (cg_vv g.2.2) = (w.toList ++ rest).map (cg_vv g.2.2) := by
    rw [hv, List.map_append]
    cases w <;> rfl
  show Steps _ _ _ (T'.setTop { F0 m pc la st0 with pc := pc + 3, stack := v.toList ++ rest.map (cg_vv g.2.2) }) t2
  rw [e3]
  exact a1
theorem cr_callV (C : cg_C E cc nL own Ts rm) {y : MethodName} {ws ws' : List Cond} {rm' : Room} {q : cg_L} {as : List cg_V} {index maxL n cN : Nat} {bytes : ByteArray} {ret : Option FieldType} (hSp : cg_S y ws rm' (.inr (.inr q) :: as) M post) (hst : st = as.reverse ++ .inr (.inr q) :: rest) (hG : GoodIn Ts (wsV own index (cg_T cN).1 y ws)) (hw : ws = Cond.code y bytes maxL ret :: ws') (d : decode cc pc = .ok (.invokevirtual index, 3)) (hq : cg_ok q = true) (ho : cg_oi q = some cN)
    (hd : y.cls = (cg_T cN).1 ∧ y.cls ≠ "java/lang/invoke/MethodHandle" ∧ y.cls ≠ "java/lang/invoke/VarHandle" ∧ (parseMethodDescriptor y.desc).map (fun d => d.parameters.length) = some n) (hn : as.length = n) (hr : rm'.cells = 0 ∧ rm'.slots = 0 ∧ rm'.frames + 1 ≤ rm.frames ∧ 8 + (maxL + 11) + rm'.locals ≤ rm.locals) (hsum : (rest.map fun v => if cg_two v then 2 else 1).sum ≤ 8)
    (K : ∀ v M', post v M' → cg_W E M' (pc + 3) ls (v.toList ++ rest)) : cg_W E M pc ls st := by
  obtain ⟨p, l, e, R, s, m, args, below, meth, c0, Q, g, A, cells, slots⟩ := E
  intro H locs la hH hS hl
  have hR : R = rm := C.2.2.2.2.2.2.2.2.2.1
  subst hR
  subst hst
  have h1 := hH q hq
  rw [cg_ce_o ho] at h1
  have hbnd := C.2.2.2.2.2.2.2.2.2.2
  refine cg_run (post := post) (rest := rest) (va_runV (As := as.map (cg_vv g.2.2)) (rest := rest.map (cg_vv g.2.2)) (b := g.2.2 q) ⟨C.1, C.2.1, C.2.2.1, C.2.2.2.1, C.2.2.2.2.1⟩ (hSp l g) (cwV n C.2.2.2.2.1 hG hw hr.1 hr.2.1 hd ⟨hr.2.2.1, hr.2.2.2⟩) ⟨cg_blind g _ M, va_recv C.2.2.2.2.2.1 (cg_one h1) (q0 := 0) (cg_T_at (cg_oi_lt ho)) rfl, fun U hU hW => ⟨rfl, by rw [hU]; exact hH, va_K.moved hW.alike C.2.2.2.2.2.1, C.2.2.2.2.2.2.1.moved hW, C.2.2.2.2.2.2.2.1⟩⟩ rfl (by rw [List.length_map]; exact hn) (hl.1.trans C.2.2.1) (by rw [List.map_append, List.map_reverse]; rfl) (by rw [cg_sum]; exact (show 2 * 0 + _ ≤ 8 by omega)) d ⟨hbnd.1, hbnd.2⟩) hS C.2.2.2.2.2.2.2.2.1 hl K
theorem cr_callS (C : cg_C E cc nL own Ts rm) {y : MethodName} {ws ws' : List Cond} {rm' : Room} {as : List cg_V} {index maxL n : Nat} {bytes : ByteArray} {ret : Option FieldType} (hSp : cg_S y ws rm' as M post) (hst : st = as.reverse ++ rest) (hG : GoodIn Ts (va_wsS own index y ws)) (hw : ws = Cond.code y bytes maxL ret :: ws') (d : decode cc pc = .ok (.invokestatic index, 3))
    (hd : y.cls ≠ "java/lang/invoke/MethodHandle" ∧ y.cls ≠ "java/lang/invoke/VarHandle" ∧ (parseMethodDescriptor y.desc).map (fun d => d.parameters.length) = some n) (hn : as.length = n) (hr : rm'.cells = 0 ∧ rm'.slots = 0 ∧ rm'.frames + 1 ≤ rm.frames ∧ 8 + (maxL + 11) + rm'.locals ≤ rm.locals) (hsum : (rest.map fun v => if cg_two v then 2 else 1).sum ≤ 8)
    (K : ∀ v M', post v M' → cg_W E M' (pc + 3) ls (v.toList ++ rest)) : cg_W E M pc ls st := by
  obtain ⟨p, l, e, R, s, m, args, below, meth, c0, Q, g, A, cells, slots⟩ := E
  intro H locs la hH hS hl
  have hR : R = rm := C.2.2.2.2.2.2.2.2.2.1
  subst hR
  subst hst
  have hbnd := C.2.2.2.2.2.2.2.2.2.2
  have ht := C.2.2.2.2.1
  have hG2 : GoodIn Ts ws := fun w h => hG w (by unfold va_wsS; exact List.mem_append_right _ h)
  have ok : ∀ w ∈ va_wsS own index y ws, w.before args s = true := fun w h => ht w (hG w h).1
  refine cg_run (post := post) (rest := rest) (va_runS (As := as.map (cg_vv g.2.2)) (rest := rest.map (cg_vv g.2.2)) ⟨C.1, C.2.1, C.2.2.1, C.2.2.2.1, C.2.2.2.2.1⟩ (hSp l g) ⟨callB_of n ht hG2 hw hr.1 hr.2.1 (ok _ (by simp [va_wsS])) (ok _ (by simp [va_wsS])) hd ⟨hr.2.2.1, hr.2.2.2⟩, ok _ (by simp [va_wsS])⟩ ⟨cg_blind g _ M, fun U hU hW => ⟨rfl, by rw [hU]; exact hH, va_K.moved hW.alike C.2.2.2.2.2.1, C.2.2.2.2.2.2.1.moved hW, C.2.2.2.2.2.2.2.1⟩⟩ rfl (by rw [List.length_map]; exact hn) (hl.1.trans C.2.2.1) (by rw [List.map_append, List.map_reverse]) (by rw [cg_sum]; exact (show 2 * 0 + _ ≤ 8 by omega)) d ⟨hbnd.1, hbnd.2⟩) hS C.2.2.2.2.2.2.2.2.1 hl K
theorem cr_callN (C : cg_C E cc nL own Ts rm) {y : MethodName} {host : String} {ws ws' : List Cond} {rm' : Room} {as : List cg_V} {index maxL n : Nat} {bytes : ByteArray} {ret : Option FieldType} (hSp : cg_S y ws rm' as M post) (hst : st = as.reverse ++ rest) (hG : GoodIn Ts ws) (hw : ws = Cond.code y bytes maxL ret :: ws') (d : decode cc pc = .ok (.invokestatic index, 3)) (hnw : Cond.methodLinkNest own index y host ∈ cg_nests) (hini : Cond.initialized y.cls ∈ Ts) (hstt : Cond.static y ∈ Ts)
    (hd : y.cls ≠ "java/lang/invoke/MethodHandle" ∧ y.cls ≠ "java/lang/invoke/VarHandle" ∧ (parseMethodDescriptor y.desc).map (fun d => d.parameters.length) = some n) (hn : as.length = n) (hr : rm'.cells = 0 ∧ rm'.slots = 0 ∧ rm'.frames + 1 ≤ rm.frames ∧ 8 + (maxL + 11) + rm'.locals ≤ rm.locals) (hsum : (rest.map fun v => if cg_two v then 2 else 1).sum ≤ 8)
    (K : ∀ v M', post v M' → cg_W E M' (pc + 3) ls (v.toList ++ rest)) : cg_W E M pc ls st := by
  obtain ⟨p, l, e, R, s, m, args, below, meth, c0, Q, g, A, cells, slots⟩ := E
  intro H locs la hH hS hl
  have hR : R = rm := C.2.2.2.2.2.2.2.2.2.1
  subst hR
  subst hst
  have hbnd := C.2.2.2.2.2.2.2.2.2.2
  have ht := C.2.2.2.2.1
  refine cg_run (post := post) (rest := rest) (va_runSN (As := as.map (cg_vv g.2.2)) (rest := rest.map (cg_vv g.2.2)) ⟨C.1, C.2.1, C.2.2.1, C.2.2.2.1, C.2.2.2.2.1⟩ (hSp l g) ⟨va_cnB n ht hG hw hr.1 hr.2.1 (C.2.2.2.2.2.2.1 _ hnw) (ht _ hini) hd ⟨hr.2.2.1, hr.2.2.2⟩, ht _ hstt, trivial⟩ ⟨cg_blind g _ M, fun U hU hW => ⟨rfl, by rw [hU]; exact hH, va_K.moved hW.alike C.2.2.2.2.2.1, C.2.2.2.2.2.2.1.moved hW, C.2.2.2.2.2.2.2.1⟩⟩ rfl (by rw [List.length_map]; exact hn) (hl.1.trans C.2.2.1) (by rw [List.map_append, List.map_reverse]) (by rw [cg_sum]; exact (show 2 * 0 + _ ≤ 8 by omega)) d ⟨hbnd.1, hbnd.2⟩) hS C.2.2.2.2.2.2.2.2.1 hl K
end CGC
