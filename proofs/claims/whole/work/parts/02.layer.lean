/-! ===== the layer, 1: labels, memory, cells ===== -/
/-- a label of a cell: kind (0 State, 1 Script, 2 History, 3 ClientGuarantees, 4 the reference), which one, field + 1 (0: the object), row + 1 (0: the array itself) -/
abbrev cg_L : Type := Nat × Nat × Nat × Nat
/-- the memory: block, place -/
abbrev cg_M : Type := Nat → Nat → Int32
abbrev cg_V : Type := Int32 ⊕ (Int64 ⊕ cg_L)
/-- geometry: numbers of classes and slots; the classes int[], int[][], State[]; the addresses -/
abbrev cg_G : Type := va_G × (ClassId × ClassId × ClassId) × (cg_L → Nat)
def cg_vv (ad : cg_L → Nat) (v : cg_V) : Value := match v with
  | .inl x => .int x
  | .inr (.inl x) => .long x
  | .inr (.inr q) => .ref (ad q)
/-- int arrays: block, length, places -/
def cg_ai (q : cg_L) : Option (Nat × Nat × (Nat → Nat)) := match q with
  | (0, k, 2, 0) => some (k, 60, fun j => 13 + 5 * j)
  | (0, k, 3, 0) => some (k, 60, fun j => 14 + 5 * j)
  | (0, k, 4, 0) => some (k, 60, fun j => 15 + 5 * j)
  | (0, k, 5, 0) => some (k, 60, fun j => 16 + 5 * j)
  | (0, k, 6, 0) => some (k, 60, fun j => 17 + 5 * j)
  | (0, k, 7, r + 1) => some (k, 3, fun j => 3 * r + j)
  | (0, k, 8, 0) => some (k, 3, fun j => 9 + j)
  | (0, k, 9, 0) => some (k, 4, fun j => 313 + 7 * j)
  | (0, k, 10, r + 1) => some (k, 3, fun j => 314 + 7 * r + j)
  | (0, k, 11, r + 1) => some (k, 3, fun j => 317 + 7 * r + j)
  | (0, k, 12, 0) => some (k, 4, fun j => 341 + j)
  | (1, _, 1, 0) => some (10, 100, fun j => j)
  | (1, _, 3, 0) => some (11, 34, fun j => j)
  | (1, _, 4, r + 1) => some (12, 4, fun j => 4 * r + j)
  | (3, _, 4, 0) => some (15, 5, fun j => j)
  | (4, _, 1, 0) => some (20, 345, fun j => j)
  | (4, _, 2, 0) => some (21, 1380, fun j => j)
  | (4, _, 4, 0) => some (22, 345, fun j => j)
  | (4, _, 5, 0) => some (23, 5, fun j => j)
  | (4, _, 6, 0) => some (24, 100, fun j => j)
  | (4, _, 9, 0) => some (25, 4, fun j => j)
  | _ => none
/-- arrays of references: length, elements -/
def cg_ri (q : cg_L) : Option (Nat × (Nat → cg_L)) := match q with
  | (0, k, 7, 0) => some (3, fun j => (0, k, 7, j + 1))
  | (0, k, 10, 0) => some (4, fun j => (0, k, 10, j + 1))
  | (0, k, 11, 0) => some (4, fun j => (0, k, 11, j + 1))
  | (1, k, 4, 0) => some (34, fun j => (1, k, 4, j + 1))
  | (2, _, 1, 0) => some (5, fun j => (0, j + 1, 0, 0))
  | _ => none
/-- objects: the number of the kind in vwCl -/
def cg_oi (q : cg_L) : Option Nat := match q with
  | (0, _, 0, 0) => some 2
  | (1, _, 0, 0) => some 1
  | (2, _, 0, 0) => some 0
  | (3, _, 0, 0) => some 3
  | (4, _, 0, 0) => some 4
  | _ => none
def cg_nf (c : Nat) : Nat := match c with
  | 0 => 3
  | 1 => 8
  | 2 => 12
  | 3 => 4
  | _ => 10
/-- fields that hold references -/
def cg_fr (q : cg_L) (j : Nat) : Option cg_L := match q, j with
  | (0, k, _, _), j + 1 => some (0, k, j + 2, 0)
  | (1, k, _, _), 0 => some (1, k, 1, 0)
  | (1, k, _, _), 2 => some (1, k, 3, 0)
  | (1, k, _, _), 3 => some (1, k, 4, 0)
  | (2, k, _, _), 0 => some (2, k, 1, 0)
  | (3, _, _, _), 0 => some (0, 0, 0, 0)
  | (3, _, _, _), 1 => some (2, 0, 0, 0)
  | (3, _, _, _), 2 => some (1, 0, 0, 0)
  | (3, k, _, _), 3 => some (3, k, 4, 0)
  | (4, k, _, _), 0 => some (4, k, 1, 0)
  | (4, k, _, _), 1 => some (4, k, 2, 0)
  | (4, k, _, _), 3 => some (4, k, 4, 0)
  | (4, k, _, _), 4 => some (4, k, 5, 0)
  | (4, k, _, _), 5 => some (4, k, 6, 0)
  | (4, k, _, _), 8 => some (4, k, 9, 0)
  | _, _ => none
/-- fields that hold ints: block, place -/
def cg_fi (q : cg_L) (j : Nat) : Nat × Nat := match q with
  | (0, k, _, _) => (k, 12)
  | (1, _, _, _) => (13, j)
  | (2, _, _, _) => (14, j)
  | (4, _, _, _) => (26, j)
  | _ => (99, j)
def cg_ok (q : cg_L) : Bool := match q with
  | (0, k, 7, r) => decide (k < 6) && decide (r < 4)
  | (0, k, 10, r) => decide (k < 6) && decide (r < 5)
  | (0, k, 11, r) => decide (k < 6) && decide (r < 5)
  | (0, k, f, r) => decide (k < 6) && (decide (f < 13) && !(f == 1)) && decide (r = 0)
  | (1, k, 4, r) => decide (k = 0) && decide (r < 35)
  | (1, k, f, r) => decide (k = 0) && (f == 0 || f == 1 || f == 3) && decide (r = 0)
  | (2, k, f, r) => decide (k = 0) && (f == 0 || f == 1) && decide (r = 0)
  | (3, k, f, r) => decide (k = 0) && (f == 0 || f == 4) && decide (r = 0)
  | (4, k, f, r) => decide (k = 0) && (f == 0 || f == 1 || f == 2 || f == 4 || f == 5 || f == 6 || f == 9) && decide (r = 0)
  | _ => false
def cg_fv (ad : cg_L → Nat) (M : cg_M) (q : cg_L) (j : Nat) : Value := match cg_fr q j with
  | some t => .ref (ad t)
  | none => .int (M (cg_fi q j).1 (cg_fi q j).2)
def cg_ce (g : cg_G) (M : cg_M) (q : cg_L) : va_E := match cg_oi q with
  | some c => .inr (c, (List.range (cg_nf c)).map (cg_fv g.2.2 M q))
  | none => match cg_ai q with
    | some (b, n, f) => .inl (g.2.1.1, n, .inl (fun j => M b (f j)))
    | none => match cg_ri q with
      | some (n, f) => .inl (if q.1 = 2 then g.2.1.2.2 else g.2.1.2.1, n, .inr (.inr (.inr (.inr (fun j => if j < n then some (g.2.2 (f j)) else none)))))
      | none => .inl (g.2.1.1, 0, .inl (fun _ => 0))
def cg_tys (g : cg_G) : List (ClassId × FieldType) := [(g.2.1.1, .int), (g.2.1.2.1, .array .int), (g.2.1.2.2, .object RX2)]
def cg_H (g : cg_G) (M : cg_M) (H : Heap) : Prop := ∀ q : cg_L, cg_ok q = true → va_at g.1 vwCl (g.2.2 q, cg_ce g M q) H
def cg_inj (g : cg_G) : Prop := ∀ q r : cg_L, cg_ok q = true → cg_ok r = true → g.2.2 q = g.2.2 r → q = r
/-- whose place it is -/
def cg_oS (k x : Nat) : cg_L × Nat :=
  if x < 9 then ((0, k, 7, x / 3 + 1), x % 3) else if x < 12 then ((0, k, 8, 0), x - 9) else if x = 12 then ((0, k, 0, 0), 0)
  else if x < 313 then ((0, k, 2 + (x - 13) % 5, 0), (x - 13) / 5)
  else if x < 341 then (if (x - 313) % 7 = 0 then ((0, k, 9, 0), (x - 313) / 7) else if (x - 313) % 7 < 4 then ((0, k, 10, (x - 313) / 7 + 1), (x - 313) % 7 - 1) else ((0, k, 11, (x - 313) / 7 + 1), (x - 313) % 7 - 4))
  else ((0, k, 12, 0), x - 341)
def cg_ow (b x : Nat) : cg_L × Nat := match b with
  | 10 => ((1, 0, 1, 0), x)
  | 11 => ((1, 0, 3, 0), x)
  | 12 => ((1, 0, 4, x / 4 + 1), x % 4)
  | 13 => ((1, 0, 0, 0), x)
  | 14 => ((2, 0, 0, 0), x)
  | 15 => ((3, 0, 4, 0), x)
  | 20 => ((4, 0, 1, 0), x)
  | 21 => ((4, 0, 2, 0), x)
  | 22 => ((4, 0, 4, 0), x)
  | 23 => ((4, 0, 5, 0), x)
  | 24 => ((4, 0, 6, 0), x)
  | 25 => ((4, 0, 9, 0), x)
  | 26 => ((4, 0, 0, 0), x)
  | k => cg_oS k x
theorem cg_ow_S {k : Nat} (h : k < 6) (x : Nat) : cg_ow k x = cg_oS k x := by
  match k, h with
  | 0, _ => rfl
  | 1, _ => rfl
  | 2, _ => rfl
  | 3, _ => rfl
  | 4, _ => rfl
  | 5, _ => rfl
  | k + 6, h => exact absurd h (by omega)
theorem cg_ok0 {k f r : Nat} (h : cg_ok (0, k, f, r) = true) : k < 6 := by
  unfold cg_ok at h
  split at h <;> simp_all
theorem cg_ow_ai {q : cg_L} {b n j : Nat} {f : Nat → Nat} (hq : cg_ok q = true) (h : cg_ai q = some (b, n, f)) (hj : j < n) : cg_ow b (f j) = (q, j) := by
  unfold cg_ai at h
  split at h <;> first | (cases h; done) | skip
  all_goals (obtain ⟨rfl, rfl, rfl⟩ := h)
  all_goals (try dsimp only)
  all_goals (first | (rw [cg_ow_S (cg_ok0 hq)]; unfold cg_oS; repeat' split) | skip)
  all_goals (first | omega | skip)
  all_goals (first | (simp only [Prod.mk.injEq, true_and, and_true]; omega) | skip)
  all_goals (simp [cg_ok] at hq; simp [cg_ow, hq]; try omega)
theorem cg_ow_fi {q : cg_L} {c j : Nat} (hq : cg_ok q = true) (h : cg_oi q = some c) (hj : j < cg_nf c) (hr : cg_fr q j = none) : cg_ow (cg_fi q j).1 (cg_fi q j).2 = (q, j) := by
  unfold cg_oi at h
  split at h <;> first | (cases h; done) | skip
  all_goals (obtain rfl := Option.some.inj h)
  · have hk := cg_ok0 hq
    match j, hr with
    | 0, _ => exact (cg_ow_S hk 12).trans rfl
    | j + 1, hr => simp [cg_fr] at hr
  · simp [cg_ok] at hq; subst hq; rfl
  · simp [cg_ok] at hq; subst hq; rfl
  · match j, hr, hj with
    | 0, hr, _ => simp [cg_fr] at hr
    | 1, hr, _ => simp [cg_fr] at hr
    | 2, hr, _ => simp [cg_fr] at hr
    | 3, hr, _ => simp [cg_fr] at hr
    | j + 4, _, hj => exact absurd hj (by simp [cg_nf])
  · simp [cg_ok] at hq; subst hq; rfl
/-- a block put anew; a place put anew -/
def cg_sb (M : cg_M) (b : Nat) (P : Nat → Int32) : cg_M := fun b' => if b' = b then P else M b'
def cg_up (M : cg_M) (b x : Nat) (v : Int32) : cg_M := cg_sb M b (upd (M b) x v)
theorem cg_sb_s (M : cg_M) (b : Nat) (P : Nat → Int32) : cg_sb M b P b = P := by simp [cg_sb]
theorem cg_sb_n {M : cg_M} {b b' : Nat} {P : Nat → Int32} (h : b' ≠ b) : cg_sb M b P b' = M b' := by simp [cg_sb, h]
theorem cg_up_at (M : cg_M) (b x : Nat) (v : Int32) (b' x' : Nat) : cg_up M b x v b' x' = if b' = b ∧ x' = x then v else M b' x' := by
  unfold cg_up cg_sb
  by_cases h : b' = b
  · subst h
    by_cases h2 : x' = x
    · subst h2; simp [upd]
    · simp [upd, h2]
  · simp [h]
theorem cg_up_ne {M : cg_M} {b x : Nat} {v : Int32} {b' x' : Nat} (h : cg_ow b' x' ≠ cg_ow b x) : cg_up M b x v b' x' = M b' x' := by
  rw [cg_up_at, if_neg]
  rintro ⟨rfl, rfl⟩
  exact h rfl
theorem cg_arrV {c : ClassId} {n : Nat} {f f' : Nat → Value} (h : ∀ j, j < n → f j = f' j) : arrV c n f = arrV c n f' := by
  unfold arrV
  congr 1
  apply Array.ext
  · simp
  · intro i h1 h2
    simp only [Array.getElem_ofFn]
    exact h i (by simpa using h1)
/-- a cell none of whose places has changed -/
theorem cg_at_same {g : cg_G} {M M' : cg_M} {q : cg_L} {H : Heap} (h : va_at g.1 vwCl (g.2.2 q, cg_ce g M q) H) (ha : ∀ b n f, cg_ai q = some (b, n, f) → ∀ j, j < n → M' b (f j) = M b (f j)) (hf : ∀ c j, cg_oi q = some c → j < cg_nf c → cg_fr q j = none → M' (cg_fi q j).1 (cg_fi q j).2 = M (cg_fi q j).1 (cg_fi q j).2) : va_at g.1 vwCl (g.2.2 q, cg_ce g M' q) H := by
  have e : va_at g.1 vwCl (g.2.2 q, cg_ce g M' q) H = va_at g.1 vwCl (g.2.2 q, cg_ce g M q) H := by
    unfold cg_ce
    cases ho : cg_oi q with
    | some c =>
      have : (List.range (cg_nf c)).map (cg_fv g.2.2 M' q) = (List.range (cg_nf c)).map (cg_fv g.2.2 M q) := by
        apply List.map_congr_left
        intro j hj
        unfold cg_fv
        cases hr : cg_fr q j with
        | some t => rfl
        | none => simp only []; rw [hf c j ho (List.mem_range.mp hj) hr]
      simp only [this]
    | none =>
      cases hai : cg_ai q with
      | some t =>
        obtain ⟨b, n, f⟩ := t
        simp only [va_at, vp_cell_i]
        rw [cg_arrV (f := fun j => Value.int (M' b (f j))) (f' := fun j => Value.int (M b (f j))) (fun j hj => by rw [ha b n f hai j hj])]
      | none => rfl
  rw [e]
  exact h
