/-! ===== State, Script, the reference: made ===== -/
theorem inX2_init : ∀ w ∈ u_ws RX2 TX2 12, w ∈ wsX2_init := by decide +kernel
theorem inX1_init : ∀ w ∈ u_ws RX1 TX1 8, w ∈ wsX1_init := by decide +kernel
theorem inX4_init : ∀ w ∈ u_ws RX4 TX4 10, w ∈ wsX4_init := by decide +kernel
/-- a State as made -/
def ci_st (cI cJ _cS : ClassId) (h0 : Nat) (a : Nat → Nat → Nat) : va_W := [(h0, ci_o 2 [.int (nI 0), .ref (a 2 0), .ref (a 3 0), .ref (a 4 0), .ref (a 5 0), .ref (a 6 0), .ref (a 7 0), .ref (a 8 0), .ref (a 9 0), .ref (a 10 0), .ref (a 11 0), .ref (a 12 0)]), (a 2 0, ci_a cI 60), (a 3 0, ci_a cI 60), (a 4 0, ci_a cI 60), (a 5 0, ci_a cI 60), (a 6 0, ci_a cI 60), (a 7 0, ci_m cJ 3 (fun i => a 7 (i + 1))), (a 7 1, ci_a cI 3), (a 7 2, ci_a cI 3), (a 7 3, ci_a cI 3), (a 8 0, ci_a cI 3), (a 9 0, ci_a cI 4), (a 10 0, ci_m cJ 4 (fun i => a 10 (i + 1))), (a 10 1, ci_a cI 3), (a 10 2, ci_a cI 3), (a 10 3, ci_a cI 3), (a 10 4, ci_a cI 3), (a 11 0, ci_m cJ 4 (fun i => a 11 (i + 1))), (a 11 1, ci_a cI 3), (a 11 2, ci_a cI 3), (a 11 3, ci_a cI 3), (a 11 4, ci_a cI 3), (a 12 0, ci_a cI 4)]
/-- a Script as made -/
def ci_sc (cI cJ _cS : ClassId) (h0 : Nat) (u : Nat × Nat × Nat × (Nat → Nat)) : va_W := [(h0, ci_o 1 [.ref u.1, .int (nI 0), .ref u.2.1, .ref u.2.2.1, .int (nI 0), .int (nI 0), .int (nI 0), .int (nI 0)]), (u.1, ci_a cI 100), (u.2.1, ci_a cI 34), (u.2.2.1, ci_m cJ 34 u.2.2.2)] ++ (List.range 34).map (fun i => (u.2.2.2 i, ci_a cI 4))
/-- the reference as made -/
def ci_rf (cI _cJ _cS : ClassId) (h0 : Nat) (a : Nat → Nat) : va_W := [(h0, ci_o 4 [.ref (a 1), .ref (a 2), .int (nI 0), .ref (a 4), .ref (a 5), .ref (a 6), .int (nI 0), .int (nI 0), .ref (a 9), .int (nI 0)]), (a 1, ci_a cI 345), (a 2, ci_a cI 1380), (a 4, ci_a cI 345), (a 5, ci_a cI 5), (a 6, ci_a cI 100), (a 9, ci_a cI 4)]
theorem ci_upd0 (k : Nat) : upd (fun _ => nI 0) k (nI 0) = (fun _ => nI 0) := by
  funext j
  unfold upd
  split <;> rfl
set_option maxRecDepth 100000 in
set_option maxHeartbeats 4000000 in
theorem ci_X2 (l : Launch) : ci_Met l yX2_init wsX2_init ({ frames := 1, cells := 22, slots := 355, locals := 12 } : Room) (2, [.int (nI 0), .null, .null, .null, .null, .null, .null, .null, .null, .null, .null, .null]) 22 355 ci_st := by
  intro D cI cJ cS h0 sz
  refine Met.ofW (cc := cX2_init) (maxL := 1) (ret := none) (by decide) rfl ?_
  intro p e s m args below meth c s₁ B hml hv
  obtain ⟨rfl, hsz, hP, hZ⟩ := hv
  have hx := B.exec
  have hb := B.bytes
  have hr := B.returns
  have hts := atoms_spec (ws := wsX2_init) B.pre
  have hown : s.vm.findClass RX2 = some m.cls := findClass_of_methodNamed B.named
  have hin : meth.name = "<init>" := (name_of_methodNamed B.named B.method).1
  subst hsz
  have hD : va_D (va_A [(h0, (.inr (2, [.int (nI 0), .null, .null, .null, .null, .null, .null, .null, .null, .null, .null, .null]) : va_E))] s.heap.size) [(h0, (.inr (2, [.int (nI 0), .null, .null, .null, .null, .null, .null, .null, .null, .null, .null, .null]) : va_E))] := ci_D1 (Or.inl ⟨0, _, rfl⟩)
  generalize hAe : va_A [(h0, (.inr (2, [.int (nI 0), .null, .null, .null, .null, .null, .null, .null, .null, .null, .null, .null]) : va_E))] s.heap.size = A at hD ⊢
  have hA : ∀ q : Nat, s.heap.size ≤ q → A q := fun q h => by rw [← hAe]; exact Or.inr h
  have hS : va_S A s.heap s.heap [] := va_S.rf
  have hl := lv_entry ([.ref h0]) (n := 1) (Nat.le_of_ble_eq_true rfl)
  rw [lg_entry_eq]
  generalize (lg_sl ([.ref h0]) ++ List.replicate (1 - (lg_sl ([.ref h0])).length) Slot.unset).toArray = ls at hl ⊢
  have hl : lv_has ls 1 [(0, .ref h0)] := hl
  refine lv_aload_n hx hb dX2_init_0 rfl (lv_at hl 0 rfl) ?_
  refine W.objInit hx hb hown (hts (.methodLink RX2 3 objectInit) (by decide +kernel)) (hts (.instanceMethod objectInit) (by decide +kernel)) (hts _ (List.mem_of_getElem? (i := 3) rfl)) rfl (by rw [hml]; exact hl.1) rfl dX2_init_1 (Nat.le_of_ble_eq_true rfl) (Nat.le_of_ble_eq_true rfl) ?_
  refine W.eq (g2 := F0 m 4 ls []) rfl ?_
  refine lv_aload_n hx hb dX2_init_4 rfl (lv_at hl 0 rfl) ?_
  refine lv_iconst (v := nI 0) hx hb dX2_init_5 (by decide) ?_
  refine va_put (D := D) (cl := vwCl) (ci := 2) (v := .int (nI 0)) (ty := .int) (C := RX2) (T := TX2) (N := 12) hx hb hts inX2_init tyX2 tyX2_ok nmX2 hown hZ.1 hP hD hS 0 rfl rfl 0 (by decide) (hts (.fieldLink RX2 9 (TX2 0).1 (TX2 0).2.1 (TX2 0).2.2.1) (by decide +kernel)) (fun _ h9 => h9) rfl (by decide +kernel) rfl rfl (Nat.le_of_ble_eq_true rfl) dX2_init_6 (fun H locs hP hD hS => ?_)
  have hP : va_P D vwCl ([(h0, ci_o 2 [.int (nI 0), .null, .null, .null, .null, .null, .null, .null, .null, .null, .null, .null])]) H := hP
  have hD : va_D A ([(h0, ci_o 2 [.int (nI 0), .null, .null, .null, .null, .null, .null, .null, .null, .null, .null, .null])]) := hD
  refine lv_aload_n hx hb dX2_init_9 rfl (lv_at hl 0 rfl) ?_
  refine lv_bipush (v := nI 60) hx hb dX2_init_10 (by decide) ?_
  refine ci_newa hx hb (hts (.arrayClass .int) (by decide +kernel)) hZ hP hD hS hA (by decide) (Nat.le_of_ble_eq_true rfl) (Nat.le_of_ble_eq_true rfl) dX2_init_12 (fun q2 H hP hD hS => ?_)
  have hP : va_P D vwCl ([(h0, ci_o 2 [.int (nI 0), .null, .null, .null, .null, .null, .null, .null, .null, .null, .null, .null]), (q2, ci_a cI 60)]) H := hP
  have hD : va_D A ([(h0, ci_o 2 [.int (nI 0), .null, .null, .null, .null, .null, .null, .null, .null, .null, .null, .null]), (q2, ci_a cI 60)]) := hD
  refine va_putF (D := D) (cl := vwCl) (ci := 2) (v := .ref q2) (ty := .array .int) (C := RX2) (T := TX2) (N := 12) hx hb hts inX2_init tyX2 tyX2_ok nmX2 hown hZ.1 hP hD hS 0 rfl rfl 1 (by decide) (hts (.fieldLink RX2 15 (TX2 1).1 (TX2 1).2.1 (TX2 1).2.2.1) (by decide +kernel)) (fun _ h9 => h9) rfl hin rfl (by decide +kernel) rfl rfl (Nat.le_of_ble_eq_true rfl) dX2_init_14 (fun H locs hP hD hS => ?_)
  have hP : va_P D vwCl ([(h0, ci_o 2 [.int (nI 0), .ref q2, .null, .null, .null, .null, .null, .null, .null, .null, .null, .null]), (q2, ci_a cI 60)]) H := hP
  have hD : va_D A ([(h0, ci_o 2 [.int (nI 0), .ref q2, .null, .null, .null, .null, .null, .null, .null, .null, .null, .null]), (q2, ci_a cI 60)]) := hD
  refine lv_aload_n hx hb dX2_init_17 rfl (lv_at hl 0 rfl) ?_
  refine lv_bipush (v := nI 60) hx hb dX2_init_18 (by decide) ?_
  refine ci_newa hx hb (hts (.arrayClass .int) (by decide +kernel)) hZ hP hD hS hA (by decide) (Nat.le_of_ble_eq_true rfl) (Nat.le_of_ble_eq_true rfl) dX2_init_20 (fun q3 H hP hD hS => ?_)
  have hP : va_P D vwCl ([(h0, ci_o 2 [.int (nI 0), .ref q2, .null, .null, .null, .null, .null, .null, .null, .null, .null, .null]), (q2, ci_a cI 60), (q3, ci_a cI 60)]) H := hP
  have hD : va_D A ([(h0, ci_o 2 [.int (nI 0), .ref q2, .null, .null, .null, .null, .null, .null, .null, .null, .null, .null]), (q2, ci_a cI 60), (q3, ci_a cI 60)]) := hD
  refine va_putF (D := D) (cl := vwCl) (ci := 2) (v := .ref q3) (ty := .array .int) (C := RX2) (T := TX2) (N := 12) hx hb hts inX2_init tyX2 tyX2_ok nmX2 hown hZ.1 hP hD hS 0 rfl rfl 2 (by decide) (hts (.fieldLink RX2 19 (TX2 2).1 (TX2 2).2.1 (TX2 2).2.2.1) (by decide +kernel)) (fun _ h9 => h9) rfl hin rfl (by decide +kernel) rfl rfl (Nat.le_of_ble_eq_true rfl) dX2_init_22 (fun H locs hP hD hS => ?_)
  have hP : va_P D vwCl ([(h0, ci_o 2 [.int (nI 0), .ref q2, .ref q3, .null, .null, .null, .null, .null, .null, .null, .null, .null]), (q2, ci_a cI 60), (q3, ci_a cI 60)]) H := hP
  have hD : va_D A ([(h0, ci_o 2 [.int (nI 0), .ref q2, .ref q3, .null, .null, .null, .null, .null, .null, .null, .null, .null]), (q2, ci_a cI 60), (q3, ci_a cI 60)]) := hD
  refine lv_aload_n hx hb dX2_init_25 rfl (lv_at hl 0 rfl) ?_
  refine lv_bipush (v := nI 60) hx hb dX2_init_26 (by decide) ?_
  refine ci_newa hx hb (hts (.arrayClass .int) (by decide +kernel)) hZ hP hD hS hA (by decide) (Nat.le_of_ble_eq_true rfl) (Nat.le_of_ble_eq_true rfl) dX2_init_28 (fun q4 H hP hD hS => ?_)
  have hP : va_P D vwCl ([(h0, ci_o 2 [.int (nI 0), .ref q2, .ref q3, .null, .null, .null, .null, .null, .null, .null, .null, .null]), (q2, ci_a cI 60), (q3, ci_a cI 60), (q4, ci_a cI 60)]) H := hP
  have hD : va_D A ([(h0, ci_o 2 [.int (nI 0), .ref q2, .ref q3, .null, .null, .null, .null, .null, .null, .null, .null, .null]), (q2, ci_a cI 60), (q3, ci_a cI 60), (q4, ci_a cI 60)]) := hD
  refine va_putF (D := D) (cl := vwCl) (ci := 2) (v := .ref q4) (ty := .array .int) (C := RX2) (T := TX2) (N := 12) hx hb hts inX2_init tyX2 tyX2_ok nmX2 hown hZ.1 hP hD hS 0 rfl rfl 3 (by decide) (hts (.fieldLink RX2 22 (TX2 3).1 (TX2 3).2.1 (TX2 3).2.2.1) (by decide +kernel)) (fun _ h9 => h9) rfl hin rfl (by decide +kernel) rfl rfl (Nat.le_of_ble_eq_true rfl) dX2_init_30 (fun H locs hP hD hS => ?_)
  have hP : va_P D vwCl ([(h0, ci_o 2 [.int (nI 0), .ref q2, .ref q3, .ref q4, .null, .null, .null, .null, .null, .null, .null, .null]), (q2, ci_a cI 60), (q3, ci_a cI 60), (q4, ci_a cI 60)]) H := hP
  have hD : va_D A ([(h0, ci_o 2 [.int (nI 0), .ref q2, .ref q3, .ref q4, .null, .null, .null, .null, .null, .null, .null, .null]), (q2, ci_a cI 60), (q3, ci_a cI 60), (q4, ci_a cI 60)]) := hD
  refine lv_aload_n hx hb dX2_init_33 rfl (lv_at hl 0 rfl) ?_
  refine lv_bipush (v := nI 60) hx hb dX2_init_34 (by decide) ?_
  refine ci_newa hx hb (hts (.arrayClass .int) (by decide +kernel)) hZ hP hD hS hA (by decide) (Nat.le_of_ble_eq_true rfl) (Nat.le_of_ble_eq_true rfl) dX2_init_36 (fun q5 H hP hD hS => ?_)
  have hP : va_P D vwCl ([(h0, ci_o 2 [.int (nI 0), .ref q2, .ref q3, .ref q4, .null, .null, .null, .null, .null, .null, .null, .null]), (q2, ci_a cI 60), (q3, ci_a cI 60), (q4, ci_a cI 60), (q5, ci_a cI 60)]) H := hP
  have hD : va_D A ([(h0, ci_o 2 [.int (nI 0), .ref q2, .ref q3, .ref q4, .null, .null, .null, .null, .null, .null, .null, .null]), (q2, ci_a cI 60), (q3, ci_a cI 60), (q4, ci_a cI 60), (q5, ci_a cI 60)]) := hD
  refine va_putF (D := D) (cl := vwCl) (ci := 2) (v := .ref q5) (ty := .array .int) (C := RX2) (T := TX2) (N := 12) hx hb hts inX2_init tyX2 tyX2_ok nmX2 hown hZ.1 hP hD hS 0 rfl rfl 4 (by decide) (hts (.fieldLink RX2 25 (TX2 4).1 (TX2 4).2.1 (TX2 4).2.2.1) (by decide +kernel)) (fun _ h9 => h9) rfl hin rfl (by decide +kernel) rfl rfl (Nat.le_of_ble_eq_true rfl) dX2_init_38 (fun H locs hP hD hS => ?_)
  have hP : va_P D vwCl ([(h0, ci_o 2 [.int (nI 0), .ref q2, .ref q3, .ref q4, .ref q5, .null, .null, .null, .null, .null, .null, .null]), (q2, ci_a cI 60), (q3, ci_a cI 60), (q4, ci_a cI 60), (q5, ci_a cI 60)]) H := hP
  have hD : va_D A ([(h0, ci_o 2 [.int (nI 0), .ref q2, .ref q3, .ref q4, .ref q5, .null, .null, .null, .null, .null, .null, .null]), (q2, ci_a cI 60), (q3, ci_a cI 60), (q4, ci_a cI 60), (q5, ci_a cI 60)]) := hD
  refine lv_aload_n hx hb dX2_init_41 rfl (lv_at hl 0 rfl) ?_
  refine lv_bipush (v := nI 60) hx hb dX2_init_42 (by decide) ?_
  refine ci_newa hx hb (hts (.arrayClass .int) (by decide +kernel)) hZ hP hD hS hA (by decide) (Nat.le_of_ble_eq_true rfl) (Nat.le_of_ble_eq_true rfl) dX2_init_44 (fun q6 H hP hD hS => ?_)
  have hP : va_P D vwCl ([(h0, ci_o 2 [.int (nI 0), .ref q2, .ref q3, .ref q4, .ref q5, .null, .null, .null, .null, .null, .null, .null]), (q2, ci_a cI 60), (q3, ci_a cI 60), (q4, ci_a cI 60), (q5, ci_a cI 60), (q6, ci_a cI 60)]) H := hP
  have hD : va_D A ([(h0, ci_o 2 [.int (nI 0), .ref q2, .ref q3, .ref q4, .ref q5, .null, .null, .null, .null, .null, .null, .null]), (q2, ci_a cI 60), (q3, ci_a cI 60), (q4, ci_a cI 60), (q5, ci_a cI 60), (q6, ci_a cI 60)]) := hD
  refine va_putF (D := D) (cl := vwCl) (ci := 2) (v := .ref q6) (ty := .array .int) (C := RX2) (T := TX2) (N := 12) hx hb hts inX2_init tyX2 tyX2_ok nmX2 hown hZ.1 hP hD hS 0 rfl rfl 5 (by decide) (hts (.fieldLink RX2 28 (TX2 5).1 (TX2 5).2.1 (TX2 5).2.2.1) (by decide +kernel)) (fun _ h9 => h9) rfl hin rfl (by decide +kernel) rfl rfl (Nat.le_of_ble_eq_true rfl) dX2_init_46 (fun H locs hP hD hS => ?_)
  have hP : va_P D vwCl ([(h0, ci_o 2 [.int (nI 0), .ref q2, .ref q3, .ref q4, .ref q5, .ref q6, .null, .null, .null, .null, .null, .null]), (q2, ci_a cI 60), (q3, ci_a cI 60), (q4, ci_a cI 60), (q5, ci_a cI 60), (q6, ci_a cI 60)]) H := hP
  have hD : va_D A ([(h0, ci_o 2 [.int (nI 0), .ref q2, .ref q3, .ref q4, .ref q5, .ref q6, .null, .null, .null, .null, .null, .null]), (q2, ci_a cI 60), (q3, ci_a cI 60), (q4, ci_a cI 60), (q5, ci_a cI 60), (q6, ci_a cI 60)]) := hD
  refine lv_aload_n hx hb dX2_init_49 rfl (lv_at hl 0 rfl) ?_
  refine lv_iconst (v := nI 3) hx hb dX2_init_50 (by decide) ?_
  refine lv_iconst (v := nI 3) hx hb dX2_init_51 (by decide) ?_
  refine ci_mna hx hb hown (hts (.classLink RX2 31 ("[" ++ (FieldType.array .int).toString)) (by decide +kernel)) (hts (.arrayClass .int) (by decide +kernel)) hZ hP hD hS hA (by decide) (by decide) (Nat.le_of_ble_eq_true rfl) (Nat.le_of_ble_eq_true rfl) dX2_init_52 (fun q7 rq7 H hP hD hS => ?_)
  have hP : va_P D vwCl ([(h0, ci_o 2 [.int (nI 0), .ref q2, .ref q3, .ref q4, .ref q5, .ref q6, .null, .null, .null, .null, .null, .null]), (q2, ci_a cI 60), (q3, ci_a cI 60), (q4, ci_a cI 60), (q5, ci_a cI 60), (q6, ci_a cI 60), (q7, ci_m cJ 3 rq7), (rq7 0, ci_a cI 3), (rq7 1, ci_a cI 3), (rq7 2, ci_a cI 3)]) H := hP
  have hD : va_D A ([(h0, ci_o 2 [.int (nI 0), .ref q2, .ref q3, .ref q4, .ref q5, .ref q6, .null, .null, .null, .null, .null, .null]), (q2, ci_a cI 60), (q3, ci_a cI 60), (q4, ci_a cI 60), (q5, ci_a cI 60), (q6, ci_a cI 60), (q7, ci_m cJ 3 rq7), (rq7 0, ci_a cI 3), (rq7 1, ci_a cI 3), (rq7 2, ci_a cI 3)]) := hD
  refine va_putF (D := D) (cl := vwCl) (ci := 2) (v := .ref q7) (ty := .array (.array .int)) (C := RX2) (T := TX2) (N := 12) hx hb hts inX2_init tyX2 tyX2_ok nmX2 hown hZ.1 hP hD hS 0 rfl rfl 6 (by decide) (hts (.fieldLink RX2 33 (TX2 6).1 (TX2 6).2.1 (TX2 6).2.2.1) (by decide +kernel)) (fun _ h9 => h9) rfl hin rfl (by decide +kernel) rfl rfl (Nat.le_of_ble_eq_true rfl) dX2_init_56 (fun H locs hP hD hS => ?_)
  have hP : va_P D vwCl ([(h0, ci_o 2 [.int (nI 0), .ref q2, .ref q3, .ref q4, .ref q5, .ref q6, .ref q7, .null, .null, .null, .null, .null]), (q2, ci_a cI 60), (q3, ci_a cI 60), (q4, ci_a cI 60), (q5, ci_a cI 60), (q6, ci_a cI 60), (q7, ci_m cJ 3 rq7), (rq7 0, ci_a cI 3), (rq7 1, ci_a cI 3), (rq7 2, ci_a cI 3)]) H := hP
  have hD : va_D A ([(h0, ci_o 2 [.int (nI 0), .ref q2, .ref q3, .ref q4, .ref q5, .ref q6, .ref q7, .null, .null, .null, .null, .null]), (q2, ci_a cI 60), (q3, ci_a cI 60), (q4, ci_a cI 60), (q5, ci_a cI 60), (q6, ci_a cI 60), (q7, ci_m cJ 3 rq7), (rq7 0, ci_a cI 3), (rq7 1, ci_a cI 3), (rq7 2, ci_a cI 3)]) := hD
  refine lv_aload_n hx hb dX2_init_59 rfl (lv_at hl 0 rfl) ?_
  refine lv_iconst (v := nI 3) hx hb dX2_init_60 (by decide) ?_
  refine ci_newa hx hb (hts (.arrayClass .int) (by decide +kernel)) hZ hP hD hS hA (by decide) (Nat.le_of_ble_eq_true rfl) (Nat.le_of_ble_eq_true rfl) dX2_init_61 (fun q8 H hP hD hS => ?_)
  have hP : va_P D vwCl ([(h0, ci_o 2 [.int (nI 0), .ref q2, .ref q3, .ref q4, .ref q5, .ref q6, .ref q7, .null, .null, .null, .null, .null]), (q2, ci_a cI 60), (q3, ci_a cI 60), (q4, ci_a cI 60), (q5, ci_a cI 60), (q6, ci_a cI 60), (q7, ci_m cJ 3 rq7), (rq7 0, ci_a cI 3), (rq7 1, ci_a cI 3), (rq7 2, ci_a cI 3), (q8, ci_a cI 3)]) H := hP
  have hD : va_D A ([(h0, ci_o 2 [.int (nI 0), .ref q2, .ref q3, .ref q4, .ref q5, .ref q6, .ref q7, .null, .null, .null, .null, .null]), (q2, ci_a cI 60), (q3, ci_a cI 60), (q4, ci_a cI 60), (q5, ci_a cI 60), (q6, ci_a cI 60), (q7, ci_m cJ 3 rq7), (rq7 0, ci_a cI 3), (rq7 1, ci_a cI 3), (rq7 2, ci_a cI 3), (q8, ci_a cI 3)]) := hD
  refine va_putF (D := D) (cl := vwCl) (ci := 2) (v := .ref q8) (ty := .array .int) (C := RX2) (T := TX2) (N := 12) hx hb hts inX2_init tyX2 tyX2_ok nmX2 hown hZ.1 hP hD hS 0 rfl rfl 7 (by decide) (hts (.fieldLink RX2 36 (TX2 7).1 (TX2 7).2.1 (TX2 7).2.2.1) (by decide +kernel)) (fun _ h9 => h9) rfl hin rfl (by decide +kernel) rfl rfl (Nat.le_of_ble_eq_true rfl) dX2_init_63 (fun H locs hP hD hS => ?_)
  have hP : va_P D vwCl ([(h0, ci_o 2 [.int (nI 0), .ref q2, .ref q3, .ref q4, .ref q5, .ref q6, .ref q7, .ref q8, .null, .null, .null, .null]), (q2, ci_a cI 60), (q3, ci_a cI 60), (q4, ci_a cI 60), (q5, ci_a cI 60), (q6, ci_a cI 60), (q7, ci_m cJ 3 rq7), (rq7 0, ci_a cI 3), (rq7 1, ci_a cI 3), (rq7 2, ci_a cI 3), (q8, ci_a cI 3)]) H := hP
  have hD : va_D A ([(h0, ci_o 2 [.int (nI 0), .ref q2, .ref q3, .ref q4, .ref q5, .ref q6, .ref q7, .ref q8, .null, .null, .null, .null]), (q2, ci_a cI 60), (q3, ci_a cI 60), (q4, ci_a cI 60), (q5, ci_a cI 60), (q6, ci_a cI 60), (q7, ci_m cJ 3 rq7), (rq7 0, ci_a cI 3), (rq7 1, ci_a cI 3), (rq7 2, ci_a cI 3), (q8, ci_a cI 3)]) := hD
  refine lv_aload_n hx hb dX2_init_66 rfl (lv_at hl 0 rfl) ?_
  refine lv_iconst (v := nI 4) hx hb dX2_init_67 (by decide) ?_
  refine ci_newa hx hb (hts (.arrayClass .int) (by decide +kernel)) hZ hP hD hS hA (by decide) (Nat.le_of_ble_eq_true rfl) (Nat.le_of_ble_eq_true rfl) dX2_init_68 (fun q9 H hP hD hS => ?_)
  have hP : va_P D vwCl ([(h0, ci_o 2 [.int (nI 0), .ref q2, .ref q3, .ref q4, .ref q5, .ref q6, .ref q7, .ref q8, .null, .null, .null, .null]), (q2, ci_a cI 60), (q3, ci_a cI 60), (q4, ci_a cI 60), (q5, ci_a cI 60), (q6, ci_a cI 60), (q7, ci_m cJ 3 rq7), (rq7 0, ci_a cI 3), (rq7 1, ci_a cI 3), (rq7 2, ci_a cI 3), (q8, ci_a cI 3), (q9, ci_a cI 4)]) H := hP
  have hD : va_D A ([(h0, ci_o 2 [.int (nI 0), .ref q2, .ref q3, .ref q4, .ref q5, .ref q6, .ref q7, .ref q8, .null, .null, .null, .null]), (q2, ci_a cI 60), (q3, ci_a cI 60), (q4, ci_a cI 60), (q5, ci_a cI 60), (q6, ci_a cI 60), (q7, ci_m cJ 3 rq7), (rq7 0, ci_a cI 3), (rq7 1, ci_a cI 3), (rq7 2, ci_a cI 3), (q8, ci_a cI 3), (q9, ci_a cI 4)]) := hD
  refine va_putF (D := D) (cl := vwCl) (ci := 2) (v := .ref q9) (ty := .array .int) (C := RX2) (T := TX2) (N := 12) hx hb hts inX2_init tyX2 tyX2_ok nmX2 hown hZ.1 hP hD hS 0 rfl rfl 8 (by decide) (hts (.fieldLink RX2 39 (TX2 8).1 (TX2 8).2.1 (TX2 8).2.2.1) (by decide +kernel)) (fun _ h9 => h9) rfl hin rfl (by decide +kernel) rfl rfl (Nat.le_of_ble_eq_true rfl) dX2_init_70 (fun H locs hP hD hS => ?_)
  have hP : va_P D vwCl ([(h0, ci_o 2 [.int (nI 0), .ref q2, .ref q3, .ref q4, .ref q5, .ref q6, .ref q7, .ref q8, .ref q9, .null, .null, .null]), (q2, ci_a cI 60), (q3, ci_a cI 60), (q4, ci_a cI 60), (q5, ci_a cI 60), (q6, ci_a cI 60), (q7, ci_m cJ 3 rq7), (rq7 0, ci_a cI 3), (rq7 1, ci_a cI 3), (rq7 2, ci_a cI 3), (q8, ci_a cI 3), (q9, ci_a cI 4)]) H := hP
  have hD : va_D A ([(h0, ci_o 2 [.int (nI 0), .ref q2, .ref q3, .ref q4, .ref q5, .ref q6, .ref q7, .ref q8, .ref q9, .null, .null, .null]), (q2, ci_a cI 60), (q3, ci_a cI 60), (q4, ci_a cI 60), (q5, ci_a cI 60), (q6, ci_a cI 60), (q7, ci_m cJ 3 rq7), (rq7 0, ci_a cI 3), (rq7 1, ci_a cI 3), (rq7 2, ci_a cI 3), (q8, ci_a cI 3), (q9, ci_a cI 4)]) := hD
  refine lv_aload_n hx hb dX2_init_73 rfl (lv_at hl 0 rfl) ?_
  refine lv_iconst (v := nI 4) hx hb dX2_init_74 (by decide) ?_
  refine lv_iconst (v := nI 3) hx hb dX2_init_75 (by decide) ?_
  refine ci_mna hx hb hown (hts (.classLink RX2 31 ("[" ++ (FieldType.array .int).toString)) (by decide +kernel)) (hts (.arrayClass .int) (by decide +kernel)) hZ hP hD hS hA (by decide) (by decide) (Nat.le_of_ble_eq_true rfl) (Nat.le_of_ble_eq_true rfl) dX2_init_76 (fun q10 rq10 H hP hD hS => ?_)
  have hP : va_P D vwCl ([(h0, ci_o 2 [.int (nI 0), .ref q2, .ref q3, .ref q4, .ref q5, .ref q6, .ref q7, .ref q8, .ref q9, .null, .null, .null]), (q2, ci_a cI 60), (q3, ci_a cI 60), (q4, ci_a cI 60), (q5, ci_a cI 60), (q6, ci_a cI 60), (q7, ci_m cJ 3 rq7), (rq7 0, ci_a cI 3), (rq7 1, ci_a cI 3), (rq7 2, ci_a cI 3), (q8, ci_a cI 3), (q9, ci_a cI 4), (q10, ci_m cJ 4 rq10), (rq10 0, ci_a cI 3), (rq10 1, ci_a cI 3), (rq10 2, ci_a cI 3), (rq10 3, ci_a cI 3)]) H := hP
  have hD : va_D A ([(h0, ci_o 2 [.int (nI 0), .ref q2, .ref q3, .ref q4, .ref q5, .ref q6, .ref q7, .ref q8, .ref q9, .null, .null, .null]), (q2, ci_a cI 60), (q3, ci_a cI 60), (q4, ci_a cI 60), (q5, ci_a cI 60), (q6, ci_a cI 60), (q7, ci_m cJ 3 rq7), (rq7 0, ci_a cI 3), (rq7 1, ci_a cI 3), (rq7 2, ci_a cI 3), (q8, ci_a cI 3), (q9, ci_a cI 4), (q10, ci_m cJ 4 rq10), (rq10 0, ci_a cI 3), (rq10 1, ci_a cI 3), (rq10 2, ci_a cI 3), (rq10 3, ci_a cI 3)]) := hD
  refine va_putF (D := D) (cl := vwCl) (ci := 2) (v := .ref q10) (ty := .array (.array .int)) (C := RX2) (T := TX2) (N := 12) hx hb hts inX2_init tyX2 tyX2_ok nmX2 hown hZ.1 hP hD hS 0 rfl rfl 9 (by decide) (hts (.fieldLink RX2 42 (TX2 9).1 (TX2 9).2.1 (TX2 9).2.2.1) (by decide +kernel)) (fun _ h9 => h9) rfl hin rfl (by decide +kernel) rfl rfl (Nat.le_of_ble_eq_true rfl) dX2_init_80 (fun H locs hP hD hS => ?_)
  have hP : va_P D vwCl ([(h0, ci_o 2 [.int (nI 0), .ref q2, .ref q3, .ref q4, .ref q5, .ref q6, .ref q7, .ref q8, .ref q9, .ref q10, .null, .null]), (q2, ci_a cI 60), (q3, ci_a cI 60), (q4, ci_a cI 60), (q5, ci_a cI 60), (q6, ci_a cI 60), (q7, ci_m cJ 3 rq7), (rq7 0, ci_a cI 3), (rq7 1, ci_a cI 3), (rq7 2, ci_a cI 3), (q8, ci_a cI 3), (q9, ci_a cI 4), (q10, ci_m cJ 4 rq10), (rq10 0, ci_a cI 3), (rq10 1, ci_a cI 3), (rq10 2, ci_a cI 3), (rq10 3, ci_a cI 3)]) H := hP
  have hD : va_D A ([(h0, ci_o 2 [.int (nI 0), .ref q2, .ref q3, .ref q4, .ref q5, .ref q6, .ref q7, .ref q8, .ref q9, .ref q10, .null, .null]), (q2, ci_a cI 60), (q3, ci_a cI 60), (q4, ci_a cI 60), (q5, ci_a cI 60), (q6, ci_a cI 60), (q7, ci_m cJ 3 rq7), (rq7 0, ci_a cI 3), (rq7 1, ci_a cI 3), (rq7 2, ci_a cI 3), (q8, ci_a cI 3), (q9, ci_a cI 4), (q10, ci_m cJ 4 rq10), (rq10 0, ci_a cI 3), (rq10 1, ci_a cI 3), (rq10 2, ci_a cI 3), (rq10 3, ci_a cI 3)]) := hD
  refine lv_aload_n hx hb dX2_init_83 rfl (lv_at hl 0 rfl) ?_
  refine lv_iconst (v := nI 4) hx hb dX2_init_84 (by decide) ?_
  refine lv_iconst (v := nI 3) hx hb dX2_init_85 (by decide) ?_
  refine ci_mna hx hb hown (hts (.classLink RX2 31 ("[" ++ (FieldType.array .int).toString)) (by decide +kernel)) (hts (.arrayClass .int) (by decide +kernel)) hZ hP hD hS hA (by decide) (by decide) (Nat.le_of_ble_eq_true rfl) (Nat.le_of_ble_eq_true rfl) dX2_init_86 (fun q11 rq11 H hP hD hS => ?_)
  have hP : va_P D vwCl ([(h0, ci_o 2 [.int (nI 0), .ref q2, .ref q3, .ref q4, .ref q5, .ref q6, .ref q7, .ref q8, .ref q9, .ref q10, .null, .null]), (q2, ci_a cI 60), (q3, ci_a cI 60), (q4, ci_a cI 60), (q5, ci_a cI 60), (q6, ci_a cI 60), (q7, ci_m cJ 3 rq7), (rq7 0, ci_a cI 3), (rq7 1, ci_a cI 3), (rq7 2, ci_a cI 3), (q8, ci_a cI 3), (q9, ci_a cI 4), (q10, ci_m cJ 4 rq10), (rq10 0, ci_a cI 3), (rq10 1, ci_a cI 3), (rq10 2, ci_a cI 3), (rq10 3, ci_a cI 3), (q11, ci_m cJ 4 rq11), (rq11 0, ci_a cI 3), (rq11 1, ci_a cI 3), (rq11 2, ci_a cI 3), (rq11 3, ci_a cI 3)]) H := hP
  have hD : va_D A ([(h0, ci_o 2 [.int (nI 0), .ref q2, .ref q3, .ref q4, .ref q5, .ref q6, .ref q7, .ref q8, .ref q9, .ref q10, .null, .null]), (q2, ci_a cI 60), (q3, ci_a cI 60), (q4, ci_a cI 60), (q5, ci_a cI 60), (q6, ci_a cI 60), (q7, ci_m cJ 3 rq7), (rq7 0, ci_a cI 3), (rq7 1, ci_a cI 3), (rq7 2, ci_a cI 3), (q8, ci_a cI 3), (q9, ci_a cI 4), (q10, ci_m cJ 4 rq10), (rq10 0, ci_a cI 3), (rq10 1, ci_a cI 3), (rq10 2, ci_a cI 3), (rq10 3, ci_a cI 3), (q11, ci_m cJ 4 rq11), (rq11 0, ci_a cI 3), (rq11 1, ci_a cI 3), (rq11 2, ci_a cI 3), (rq11 3, ci_a cI 3)]) := hD
  refine va_putF (D := D) (cl := vwCl) (ci := 2) (v := .ref q11) (ty := .array (.array .int)) (C := RX2) (T := TX2) (N := 12) hx hb hts inX2_init tyX2 tyX2_ok nmX2 hown hZ.1 hP hD hS 0 rfl rfl 10 (by decide) (hts (.fieldLink RX2 45 (TX2 10).1 (TX2 10).2.1 (TX2 10).2.2.1) (by decide +kernel)) (fun _ h9 => h9) rfl hin rfl (by decide +kernel) rfl rfl (Nat.le_of_ble_eq_true rfl) dX2_init_90 (fun H locs hP hD hS => ?_)
  have hP : va_P D vwCl ([(h0, ci_o 2 [.int (nI 0), .ref q2, .ref q3, .ref q4, .ref q5, .ref q6, .ref q7, .ref q8, .ref q9, .ref q10, .ref q11, .null]), (q2, ci_a cI 60), (q3, ci_a cI 60), (q4, ci_a cI 60), (q5, ci_a cI 60), (q6, ci_a cI 60), (q7, ci_m cJ 3 rq7), (rq7 0, ci_a cI 3), (rq7 1, ci_a cI 3), (rq7 2, ci_a cI 3), (q8, ci_a cI 3), (q9, ci_a cI 4), (q10, ci_m cJ 4 rq10), (rq10 0, ci_a cI 3), (rq10 1, ci_a cI 3), (rq10 2, ci_a cI 3), (rq10 3, ci_a cI 3), (q11, ci_m cJ 4 rq11), (rq11 0, ci_a cI 3), (rq11 1, ci_a cI 3), (rq11 2, ci_a cI 3), (rq11 3, ci_a cI 3)]) H := hP
  have hD : va_D A ([(h0, ci_o 2 [.int (nI 0), .ref q2, .ref q3, .ref q4, .ref q5, .ref q6, .ref q7, .ref q8, .ref q9, .ref q10, .ref q11, .null]), (q2, ci_a cI 60), (q3, ci_a cI 60), (q4, ci_a cI 60), (q5, ci_a cI 60), (q6, ci_a cI 60), (q7, ci_m cJ 3 rq7), (rq7 0, ci_a cI 3), (rq7 1, ci_a cI 3), (rq7 2, ci_a cI 3), (q8, ci_a cI 3), (q9, ci_a cI 4), (q10, ci_m cJ 4 rq10), (rq10 0, ci_a cI 3), (rq10 1, ci_a cI 3), (rq10 2, ci_a cI 3), (rq10 3, ci_a cI 3), (q11, ci_m cJ 4 rq11), (rq11 0, ci_a cI 3), (rq11 1, ci_a cI 3), (rq11 2, ci_a cI 3), (rq11 3, ci_a cI 3)]) := hD
  refine lv_aload_n hx hb dX2_init_93 rfl (lv_at hl 0 rfl) ?_
  refine lv_iconst (v := nI 4) hx hb dX2_init_94 (by decide) ?_
  refine ci_newa hx hb (hts (.arrayClass .int) (by decide +kernel)) hZ hP hD hS hA (by decide) (Nat.le_of_ble_eq_true rfl) (Nat.le_of_ble_eq_true rfl) dX2_init_95 (fun q12 H hP hD hS => ?_)
  have hP : va_P D vwCl ([(h0, ci_o 2 [.int (nI 0), .ref q2, .ref q3, .ref q4, .ref q5, .ref q6, .ref q7, .ref q8, .ref q9, .ref q10, .ref q11, .null]), (q2, ci_a cI 60), (q3, ci_a cI 60), (q4, ci_a cI 60), (q5, ci_a cI 60), (q6, ci_a cI 60), (q7, ci_m cJ 3 rq7), (rq7 0, ci_a cI 3), (rq7 1, ci_a cI 3), (rq7 2, ci_a cI 3), (q8, ci_a cI 3), (q9, ci_a cI 4), (q10, ci_m cJ 4 rq10), (rq10 0, ci_a cI 3), (rq10 1, ci_a cI 3), (rq10 2, ci_a cI 3), (rq10 3, ci_a cI 3), (q11, ci_m cJ 4 rq11), (rq11 0, ci_a cI 3), (rq11 1, ci_a cI 3), (rq11 2, ci_a cI 3), (rq11 3, ci_a cI 3), (q12, ci_a cI 4)]) H := hP
  have hD : va_D A ([(h0, ci_o 2 [.int (nI 0), .ref q2, .ref q3, .ref q4, .ref q5, .ref q6, .ref q7, .ref q8, .ref q9, .ref q10, .ref q11, .null]), (q2, ci_a cI 60), (q3, ci_a cI 60), (q4, ci_a cI 60), (q5, ci_a cI 60), (q6, ci_a cI 60), (q7, ci_m cJ 3 rq7), (rq7 0, ci_a cI 3), (rq7 1, ci_a cI 3), (rq7 2, ci_a cI 3), (q8, ci_a cI 3), (q9, ci_a cI 4), (q10, ci_m cJ 4 rq10), (rq10 0, ci_a cI 3), (rq10 1, ci_a cI 3), (rq10 2, ci_a cI 3), (rq10 3, ci_a cI 3), (q11, ci_m cJ 4 rq11), (rq11 0, ci_a cI 3), (rq11 1, ci_a cI 3), (rq11 2, ci_a cI 3), (rq11 3, ci_a cI 3), (q12, ci_a cI 4)]) := hD
  refine va_putF (D := D) (cl := vwCl) (ci := 2) (v := .ref q12) (ty := .array .int) (C := RX2) (T := TX2) (N := 12) hx hb hts inX2_init tyX2 tyX2_ok nmX2 hown hZ.1 hP hD hS 0 rfl rfl 11 (by decide) (hts (.fieldLink RX2 48 (TX2 11).1 (TX2 11).2.1 (TX2 11).2.2.1) (by decide +kernel)) (fun _ h9 => h9) rfl hin rfl (by decide +kernel) rfl rfl (Nat.le_of_ble_eq_true rfl) dX2_init_97 (fun H locs hP hD hS => ?_)
  have hP : va_P D vwCl ([(h0, ci_o 2 [.int (nI 0), .ref q2, .ref q3, .ref q4, .ref q5, .ref q6, .ref q7, .ref q8, .ref q9, .ref q10, .ref q11, .ref q12]), (q2, ci_a cI 60), (q3, ci_a cI 60), (q4, ci_a cI 60), (q5, ci_a cI 60), (q6, ci_a cI 60), (q7, ci_m cJ 3 rq7), (rq7 0, ci_a cI 3), (rq7 1, ci_a cI 3), (rq7 2, ci_a cI 3), (q8, ci_a cI 3), (q9, ci_a cI 4), (q10, ci_m cJ 4 rq10), (rq10 0, ci_a cI 3), (rq10 1, ci_a cI 3), (rq10 2, ci_a cI 3), (rq10 3, ci_a cI 3), (q11, ci_m cJ 4 rq11), (rq11 0, ci_a cI 3), (rq11 1, ci_a cI 3), (rq11 2, ci_a cI 3), (rq11 3, ci_a cI 3), (q12, ci_a cI 4)]) H := hP
  have hD : va_D A ([(h0, ci_o 2 [.int (nI 0), .ref q2, .ref q3, .ref q4, .ref q5, .ref q6, .ref q7, .ref q8, .ref q9, .ref q10, .ref q11, .ref q12]), (q2, ci_a cI 60), (q3, ci_a cI 60), (q4, ci_a cI 60), (q5, ci_a cI 60), (q6, ci_a cI 60), (q7, ci_m cJ 3 rq7), (rq7 0, ci_a cI 3), (rq7 1, ci_a cI 3), (rq7 2, ci_a cI 3), (q8, ci_a cI 3), (q9, ci_a cI 4), (q10, ci_m cJ 4 rq10), (rq10 0, ci_a cI 3), (rq10 1, ci_a cI 3), (rq10 2, ci_a cI 3), (rq10 3, ci_a cI 3), (q11, ci_m cJ 4 rq11), (rq11 0, ci_a cI 3), (rq11 1, ci_a cI 3), (rq11 2, ci_a cI 3), (rq11 3, ci_a cI 3), (q12, ci_a cI 4)]) := hD
  refine W.widen (k := 22) (n := 355) (Nat.le_of_ble_eq_true rfl) (Nat.le_of_ble_eq_true rfl) ?_
  exact W.vret hx hb hr (fun t ht hW => ⟨⟨(fun f r => match f, r with | 2, _ => q2 | 3, _ => q3 | 4, _ => q4 | 5, _ => q5 | 6, _ => q6 | 8, _ => q8 | 9, _ => q9 | 12, _ => q12 | 7, 0 => q7 | 7, j + 1 => rq7 j | 10, 0 => q10 | 10, j + 1 => rq10 j | 11, 0 => q11 | 11, j + 1 => rq11 j | _, _ => 0), rfl, trivial, by rw [ht]; exact hP, hD⟩, hS.F ht⟩) hS.2.2 dX2_init_100
set_option maxRecDepth 100000 in
set_option maxHeartbeats 4000000 in
theorem ci_X1 (l : Launch) : ci_Met l yX1_init wsX1_init ({ frames := 1, cells := 37, slots := 304, locals := 12 } : Room) (1, [.null, .int (nI 0), .null, .null, .int (nI 0), .int (nI 0), .int (nI 0), .int (nI 0)]) 37 304 ci_sc := by
  intro D cI cJ cS h0 sz
  refine Met.ofW (cc := cX1_init) (maxL := 1) (ret := none) (by decide) rfl ?_
  intro p e s m args below meth c s₁ B hml hv
  obtain ⟨rfl, hsz, hP, hZ⟩ := hv
  have hx := B.exec
  have hb := B.bytes
  have hr := B.returns
  have hts := atoms_spec (ws := wsX1_init) B.pre
  have hown : s.vm.findClass RX1 = some m.cls := findClass_of_methodNamed B.named
  have hin : meth.name = "<init>" := (name_of_methodNamed B.named B.method).1
  subst hsz
  have hD : va_D (va_A [(h0, (.inr (1, [.null, .int (nI 0), .null, .null, .int (nI 0), .int (nI 0), .int (nI 0), .int (nI 0)]) : va_E))] s.heap.size) [(h0, (.inr (1, [.null, .int (nI 0), .null, .null, .int (nI 0), .int (nI 0), .int (nI 0), .int (nI 0)]) : va_E))] := ci_D1 (Or.inl ⟨0, _, rfl⟩)
  generalize hAe : va_A [(h0, (.inr (1, [.null, .int (nI 0), .null, .null, .int (nI 0), .int (nI 0), .int (nI 0), .int (nI 0)]) : va_E))] s.heap.size = A at hD ⊢
  have hA : ∀ q : Nat, s.heap.size ≤ q → A q := fun q h => by rw [← hAe]; exact Or.inr h
  have hS : va_S A s.heap s.heap [] := va_S.rf
  have hl := lv_entry ([.ref h0]) (n := 1) (Nat.le_of_ble_eq_true rfl)
  rw [lg_entry_eq]
  generalize (lg_sl ([.ref h0]) ++ List.replicate (1 - (lg_sl ([.ref h0])).length) Slot.unset).toArray = ls at hl ⊢
  have hl : lv_has ls 1 [(0, .ref h0)] := hl
  refine lv_aload_n hx hb dX1_init_0 rfl (lv_at hl 0 rfl) ?_
  refine W.objInit hx hb hown (hts (.methodLink RX1 3 objectInit) (by decide +kernel)) (hts (.instanceMethod objectInit) (by decide +kernel)) (hts _ (List.mem_of_getElem? (i := 3) rfl)) rfl (by rw [hml]; exact hl.1) rfl dX1_init_1 (Nat.le_of_ble_eq_true rfl) (Nat.le_of_ble_eq_true rfl) ?_
  refine W.eq (g2 := F0 m 4 ls []) rfl ?_
  refine lv_aload_n hx hb dX1_init_4 rfl (lv_at hl 0 rfl) ?_
  refine lv_bipush (v := nI 100) hx hb dX1_init_5 (by decide) ?_
  refine ci_newa hx hb (hts (.arrayClass .int) (by decide +kernel)) hZ hP hD hS hA (by decide) (Nat.le_of_ble_eq_true rfl) (Nat.le_of_ble_eq_true rfl) dX1_init_7 (fun q1 H hP hD hS => ?_)
  have hP : va_P D vwCl ([(h0, ci_o 1 [.null, .int (nI 0), .null, .null, .int (nI 0), .int (nI 0), .int (nI 0), .int (nI 0)]), (q1, ci_a cI 100)]) H := hP
  have hD : va_D A ([(h0, ci_o 1 [.null, .int (nI 0), .null, .null, .int (nI 0), .int (nI 0), .int (nI 0), .int (nI 0)]), (q1, ci_a cI 100)]) := hD
  refine va_putF (D := D) (cl := vwCl) (ci := 1) (v := .ref q1) (ty := .array .int) (C := RX1) (T := TX1) (N := 8) hx hb hts inX1_init tyX1 tyX1_ok nmX1 hown hZ.1 hP hD hS 0 rfl rfl 0 (by decide) (hts (.fieldLink RX1 9 (TX1 0).1 (TX1 0).2.1 (TX1 0).2.2.1) (by decide +kernel)) (fun _ h9 => h9) rfl hin rfl (by decide +kernel) rfl rfl (Nat.le_of_ble_eq_true rfl) dX1_init_9 (fun H locs hP hD hS => ?_)
  have hP : va_P D vwCl ([(h0, ci_o 1 [.ref q1, .int (nI 0), .null, .null, .int (nI 0), .int (nI 0), .int (nI 0), .int (nI 0)]), (q1, ci_a cI 100)]) H := hP
  have hD : va_D A ([(h0, ci_o 1 [.ref q1, .int (nI 0), .null, .null, .int (nI 0), .int (nI 0), .int (nI 0), .int (nI 0)]), (q1, ci_a cI 100)]) := hD
  refine lv_aload_n hx hb dX1_init_12 rfl (lv_at hl 0 rfl) ?_
  refine lv_iconst (v := nI 0) hx hb dX1_init_13 (by decide) ?_
  refine va_put (D := D) (cl := vwCl) (ci := 1) (v := .int (nI 0)) (ty := .int) (C := RX1) (T := TX1) (N := 8) hx hb hts inX1_init tyX1 tyX1_ok nmX1 hown hZ.1 hP hD hS 0 rfl rfl 1 (by decide) (hts (.fieldLink RX1 15 (TX1 1).1 (TX1 1).2.1 (TX1 1).2.2.1) (by decide +kernel)) (fun _ h9 => h9) rfl (by decide +kernel) rfl rfl (Nat.le_of_ble_eq_true rfl) dX1_init_14 (fun H locs hP hD hS => ?_)
  have hP : va_P D vwCl ([(h0, ci_o 1 [.ref q1, .int (nI 0), .null, .null, .int (nI 0), .int (nI 0), .int (nI 0), .int (nI 0)]), (q1, ci_a cI 100)]) H := hP
  have hD : va_D A ([(h0, ci_o 1 [.ref q1, .int (nI 0), .null, .null, .int (nI 0), .int (nI 0), .int (nI 0), .int (nI 0)]), (q1, ci_a cI 100)]) := hD
  refine lv_aload_n hx hb dX1_init_17 rfl (lv_at hl 0 rfl) ?_
  refine lv_bipush (v := nI 34) hx hb dX1_init_18 (by decide) ?_
  refine ci_newa hx hb (hts (.arrayClass .int) (by decide +kernel)) hZ hP hD hS hA (by decide) (Nat.le_of_ble_eq_true rfl) (Nat.le_of_ble_eq_true rfl) dX1_init_20 (fun q3 H hP hD hS => ?_)
  have hP : va_P D vwCl ([(h0, ci_o 1 [.ref q1, .int (nI 0), .null, .null, .int (nI 0), .int (nI 0), .int (nI 0), .int (nI 0)]), (q1, ci_a cI 100), (q3, ci_a cI 34)]) H := hP
  have hD : va_D A ([(h0, ci_o 1 [.ref q1, .int (nI 0), .null, .null, .int (nI 0), .int (nI 0), .int (nI 0), .int (nI 0)]), (q1, ci_a cI 100), (q3, ci_a cI 34)]) := hD
  refine va_putF (D := D) (cl := vwCl) (ci := 1) (v := .ref q3) (ty := .array .int) (C := RX1) (T := TX1) (N := 8) hx hb hts inX1_init tyX1 tyX1_ok nmX1 hown hZ.1 hP hD hS 0 rfl rfl 2 (by decide) (hts (.fieldLink RX1 19 (TX1 2).1 (TX1 2).2.1 (TX1 2).2.2.1) (by decide +kernel)) (fun _ h9 => h9) rfl hin rfl (by decide +kernel) rfl rfl (Nat.le_of_ble_eq_true rfl) dX1_init_22 (fun H locs hP hD hS => ?_)
  have hP : va_P D vwCl ([(h0, ci_o 1 [.ref q1, .int (nI 0), .ref q3, .null, .int (nI 0), .int (nI 0), .int (nI 0), .int (nI 0)]), (q1, ci_a cI 100), (q3, ci_a cI 34)]) H := hP
  have hD : va_D A ([(h0, ci_o 1 [.ref q1, .int (nI 0), .ref q3, .null, .int (nI 0), .int (nI 0), .int (nI 0), .int (nI 0)]), (q1, ci_a cI 100), (q3, ci_a cI 34)]) := hD
  refine lv_aload_n hx hb dX1_init_25 rfl (lv_at hl 0 rfl) ?_
  refine lv_bipush (v := nI 34) hx hb dX1_init_26 (by decide) ?_
  refine lv_iconst (v := nI 4) hx hb dX1_init_28 (by decide) ?_
  refine ci_mna hx hb hown (hts (.classLink RX1 22 ("[" ++ (FieldType.array .int).toString)) (by decide +kernel)) (hts (.arrayClass .int) (by decide +kernel)) hZ hP hD hS hA (by decide) (by decide) (Nat.le_of_ble_eq_true rfl) (Nat.le_of_ble_eq_true rfl) dX1_init_29 (fun q4 rq4 H hP hD hS => ?_)
  have hP : va_P D vwCl ([(h0, ci_o 1 [.ref q1, .int (nI 0), .ref q3, .null, .int (nI 0), .int (nI 0), .int (nI 0), .int (nI 0)]), (q1, ci_a cI 100), (q3, ci_a cI 34), (q4, ci_m cJ 34 rq4)] ++ (List.range 34).map (fun i => (rq4 i, ci_a cI 4))) H := hP
  have hD : va_D A ([(h0, ci_o 1 [.ref q1, .int (nI 0), .ref q3, .null, .int (nI 0), .int (nI 0), .int (nI 0), .int (nI 0)]), (q1, ci_a cI 100), (q3, ci_a cI 34), (q4, ci_m cJ 34 rq4)] ++ (List.range 34).map (fun i => (rq4 i, ci_a cI 4))) := hD
  refine va_putF (D := D) (cl := vwCl) (ci := 1) (v := .ref q4) (ty := .array (.array .int)) (C := RX1) (T := TX1) (N := 8) hx hb hts inX1_init tyX1 tyX1_ok nmX1 hown hZ.1 hP hD hS 0 rfl rfl 3 (by decide) (hts (.fieldLink RX1 24 (TX1 3).1 (TX1 3).2.1 (TX1 3).2.2.1) (by decide +kernel)) (fun _ h9 => h9) rfl hin rfl (by decide +kernel) rfl rfl (Nat.le_of_ble_eq_true rfl) dX1_init_33 (fun H locs hP hD hS => ?_)
  have hP : va_P D vwCl ([(h0, ci_o 1 [.ref q1, .int (nI 0), .ref q3, .ref q4, .int (nI 0), .int (nI 0), .int (nI 0), .int (nI 0)]), (q1, ci_a cI 100), (q3, ci_a cI 34), (q4, ci_m cJ 34 rq4)] ++ (List.range 34).map (fun i => (rq4 i, ci_a cI 4))) H := hP
  have hD : va_D A ([(h0, ci_o 1 [.ref q1, .int (nI 0), .ref q3, .ref q4, .int (nI 0), .int (nI 0), .int (nI 0), .int (nI 0)]), (q1, ci_a cI 100), (q3, ci_a cI 34), (q4, ci_m cJ 34 rq4)] ++ (List.range 34).map (fun i => (rq4 i, ci_a cI 4))) := hD
  refine lv_aload_n hx hb dX1_init_36 rfl (lv_at hl 0 rfl) ?_
  refine lv_iconst (v := nI 0) hx hb dX1_init_37 (by decide) ?_
  refine va_put (D := D) (cl := vwCl) (ci := 1) (v := .int (nI 0)) (ty := .int) (C := RX1) (T := TX1) (N := 8) hx hb hts inX1_init tyX1 tyX1_ok nmX1 hown hZ.1 hP hD hS 0 rfl rfl 4 (by decide) (hts (.fieldLink RX1 27 (TX1 4).1 (TX1 4).2.1 (TX1 4).2.2.1) (by decide +kernel)) (fun _ h9 => h9) rfl (by decide +kernel) rfl rfl (Nat.le_of_ble_eq_true rfl) dX1_init_38 (fun H locs hP hD hS => ?_)
  have hP : va_P D vwCl ([(h0, ci_o 1 [.ref q1, .int (nI 0), .ref q3, .ref q4, .int (nI 0), .int (nI 0), .int (nI 0), .int (nI 0)]), (q1, ci_a cI 100), (q3, ci_a cI 34), (q4, ci_m cJ 34 rq4)] ++ (List.range 34).map (fun i => (rq4 i, ci_a cI 4))) H := hP
  have hD : va_D A ([(h0, ci_o 1 [.ref q1, .int (nI 0), .ref q3, .ref q4, .int (nI 0), .int (nI 0), .int (nI 0), .int (nI 0)]), (q1, ci_a cI 100), (q3, ci_a cI 34), (q4, ci_m cJ 34 rq4)] ++ (List.range 34).map (fun i => (rq4 i, ci_a cI 4))) := hD
  refine lv_aload_n hx hb dX1_init_41 rfl (lv_at hl 0 rfl) ?_
  refine lv_iconst (v := nI 0) hx hb dX1_init_42 (by decide) ?_
  refine va_put (D := D) (cl := vwCl) (ci := 1) (v := .int (nI 0)) (ty := .boolean) (C := RX1) (T := TX1) (N := 8) hx hb hts inX1_init tyX1 tyX1_ok nmX1 hown hZ.1 hP hD hS 0 rfl rfl 5 (by decide) (hts (.fieldLink RX1 30 (TX1 5).1 (TX1 5).2.1 (TX1 5).2.2.1) (by decide +kernel)) (fun _ h9 => h9) rfl (by decide +kernel) rfl rfl (Nat.le_of_ble_eq_true rfl) dX1_init_43 (fun H locs hP hD hS => ?_)
  have hP : va_P D vwCl ([(h0, ci_o 1 [.ref q1, .int (nI 0), .ref q3, .ref q4, .int (nI 0), .int (nI 0), .int (nI 0), .int (nI 0)]), (q1, ci_a cI 100), (q3, ci_a cI 34), (q4, ci_m cJ 34 rq4)] ++ (List.range 34).map (fun i => (rq4 i, ci_a cI 4))) H := hP
  have hD : va_D A ([(h0, ci_o 1 [.ref q1, .int (nI 0), .ref q3, .ref q4, .int (nI 0), .int (nI 0), .int (nI 0), .int (nI 0)]), (q1, ci_a cI 100), (q3, ci_a cI 34), (q4, ci_m cJ 34 rq4)] ++ (List.range 34).map (fun i => (rq4 i, ci_a cI 4))) := hD
  refine lv_aload_n hx hb dX1_init_46 rfl (lv_at hl 0 rfl) ?_
  refine lv_iconst (v := nI 0) hx hb dX1_init_47 (by decide) ?_
  refine va_put (D := D) (cl := vwCl) (ci := 1) (v := .int (nI 0)) (ty := .int) (C := RX1) (T := TX1) (N := 8) hx hb hts inX1_init tyX1 tyX1_ok nmX1 hown hZ.1 hP hD hS 0 rfl rfl 6 (by decide) (hts (.fieldLink RX1 34 (TX1 6).1 (TX1 6).2.1 (TX1 6).2.2.1) (by decide +kernel)) (fun _ h9 => h9) rfl (by decide +kernel) rfl rfl (Nat.le_of_ble_eq_true rfl) dX1_init_48 (fun H locs hP hD hS => ?_)
  have hP : va_P D vwCl ([(h0, ci_o 1 [.ref q1, .int (nI 0), .ref q3, .ref q4, .int (nI 0), .int (nI 0), .int (nI 0), .int (nI 0)]), (q1, ci_a cI 100), (q3, ci_a cI 34), (q4, ci_m cJ 34 rq4)] ++ (List.range 34).map (fun i => (rq4 i, ci_a cI 4))) H := hP
  have hD : va_D A ([(h0, ci_o 1 [.ref q1, .int (nI 0), .ref q3, .ref q4, .int (nI 0), .int (nI 0), .int (nI 0), .int (nI 0)]), (q1, ci_a cI 100), (q3, ci_a cI 34), (q4, ci_m cJ 34 rq4)] ++ (List.range 34).map (fun i => (rq4 i, ci_a cI 4))) := hD
  refine lv_aload_n hx hb dX1_init_51 rfl (lv_at hl 0 rfl) ?_
  refine lv_iconst (v := nI 0) hx hb dX1_init_52 (by decide) ?_
  refine va_put (D := D) (cl := vwCl) (ci := 1) (v := .int (nI 0)) (ty := .int) (C := RX1) (T := TX1) (N := 8) hx hb hts inX1_init tyX1 tyX1_ok nmX1 hown hZ.1 hP hD hS 0 rfl rfl 7 (by decide) (hts (.fieldLink RX1 37 (TX1 7).1 (TX1 7).2.1 (TX1 7).2.2.1) (by decide +kernel)) (fun _ h9 => h9) rfl (by decide +kernel) rfl rfl (Nat.le_of_ble_eq_true rfl) dX1_init_53 (fun H locs hP hD hS => ?_)
  have hP : va_P D vwCl ([(h0, ci_o 1 [.ref q1, .int (nI 0), .ref q3, .ref q4, .int (nI 0), .int (nI 0), .int (nI 0), .int (nI 0)]), (q1, ci_a cI 100), (q3, ci_a cI 34), (q4, ci_m cJ 34 rq4)] ++ (List.range 34).map (fun i => (rq4 i, ci_a cI 4))) H := hP
  have hD : va_D A ([(h0, ci_o 1 [.ref q1, .int (nI 0), .ref q3, .ref q4, .int (nI 0), .int (nI 0), .int (nI 0), .int (nI 0)]), (q1, ci_a cI 100), (q3, ci_a cI 34), (q4, ci_m cJ 34 rq4)] ++ (List.range 34).map (fun i => (rq4 i, ci_a cI 4))) := hD
  refine W.widen (k := 37) (n := 304) (Nat.le_of_ble_eq_true rfl) (Nat.le_of_ble_eq_true rfl) ?_
  exact W.vret hx hb hr (fun t ht hW => ⟨⟨(q1, q3, q4, rq4), rfl, trivial, by rw [ht]; exact hP, hD⟩, hS.F ht⟩) hS.2.2 dX1_init_56
set_option maxRecDepth 100000 in
set_option maxHeartbeats 4000000 in
theorem ci_X4 (l : Launch) : ci_Met l yX4_init wsX4_init ({ frames := 1, cells := 6, slots := 2179, locals := 12 } : Room) (4, [.null, .null, .int (nI 0), .null, .null, .null, .int (nI 0), .int (nI 0), .null, .int (nI 0)]) 6 2179 ci_rf := by
  intro D cI cJ cS h0 sz
  refine Met.ofW (cc := cX4_init) (maxL := 1) (ret := none) (by decide) rfl ?_
  intro p e s m args below meth c s₁ B hml hv
  obtain ⟨rfl, hsz, hP, hZ⟩ := hv
  have hx := B.exec
  have hb := B.bytes
  have hr := B.returns
  have hts := atoms_spec (ws := wsX4_init) B.pre
  have hown : s.vm.findClass RX4 = some m.cls := findClass_of_methodNamed B.named
  have hin : meth.name = "<init>" := (name_of_methodNamed B.named B.method).1
  subst hsz
  have hD : va_D (va_A [(h0, (.inr (4, [.null, .null, .int (nI 0), .null, .null, .null, .int (nI 0), .int (nI 0), .null, .int (nI 0)]) : va_E))] s.heap.size) [(h0, (.inr (4, [.null, .null, .int (nI 0), .null, .null, .null, .int (nI 0), .int (nI 0), .null, .int (nI 0)]) : va_E))] := ci_D1 (Or.inl ⟨0, _, rfl⟩)
  generalize hAe : va_A [(h0, (.inr (4, [.null, .null, .int (nI 0), .null, .null, .null, .int (nI 0), .int (nI 0), .null, .int (nI 0)]) : va_E))] s.heap.size = A at hD ⊢
  have hA : ∀ q : Nat, s.heap.size ≤ q → A q := fun q h => by rw [← hAe]; exact Or.inr h
  have hS : va_S A s.heap s.heap [] := va_S.rf
  have hl := lv_entry ([.ref h0]) (n := 1) (Nat.le_of_ble_eq_true rfl)
  rw [lg_entry_eq]
  generalize (lg_sl ([.ref h0]) ++ List.replicate (1 - (lg_sl ([.ref h0])).length) Slot.unset).toArray = ls at hl ⊢
  have hl : lv_has ls 1 [(0, .ref h0)] := hl
  refine lv_aload_n hx hb dX4_init_0 rfl (lv_at hl 0 rfl) ?_
  refine W.objInit hx hb hown (hts (.methodLink RX4 1 objectInit) (by decide +kernel)) (hts (.instanceMethod objectInit) (by decide +kernel)) (hts _ (List.mem_of_getElem? (i := 3) rfl)) rfl (by rw [hml]; exact hl.1) rfl dX4_init_1 (Nat.le_of_ble_eq_true rfl) (Nat.le_of_ble_eq_true rfl) ?_
  refine W.eq (g2 := F0 m 4 ls []) rfl ?_
  refine lv_aload_n hx hb dX4_init_4 rfl (lv_at hl 0 rfl) ?_
  refine lv_sipush (v := nI 345) hx hb dX4_init_5 (by decide) ?_
  refine ci_newa hx hb (hts (.arrayClass .int) (by decide +kernel)) hZ hP hD hS hA (by decide) (Nat.le_of_ble_eq_true rfl) (Nat.le_of_ble_eq_true rfl) dX4_init_8 (fun q1 H hP hD hS => ?_)
  have hP : va_P D vwCl ([(h0, ci_o 4 [.null, .null, .int (nI 0), .null, .null, .null, .int (nI 0), .int (nI 0), .null, .int (nI 0)]), (q1, ci_a cI 345)]) H := hP
  have hD : va_D A ([(h0, ci_o 4 [.null, .null, .int (nI 0), .null, .null, .null, .int (nI 0), .int (nI 0), .null, .int (nI 0)]), (q1, ci_a cI 345)]) := hD
  refine va_putF (D := D) (cl := vwCl) (ci := 4) (v := .ref q1) (ty := .array .int) (C := RX4) (T := TX4) (N := 10) hx hb hts inX4_init tyX4 tyX4_ok nmX4 hown hZ.1 hP hD hS 0 rfl rfl 0 (by decide) (hts (.fieldLink RX4 7 (TX4 0).1 (TX4 0).2.1 (TX4 0).2.2.1) (by decide +kernel)) (fun _ h9 => h9) rfl hin rfl (by decide +kernel) rfl rfl (Nat.le_of_ble_eq_true rfl) dX4_init_10 (fun H locs hP hD hS => ?_)
  have hP : va_P D vwCl ([(h0, ci_o 4 [.ref q1, .null, .int (nI 0), .null, .null, .null, .int (nI 0), .int (nI 0), .null, .int (nI 0)]), (q1, ci_a cI 345)]) H := hP
  have hD : va_D A ([(h0, ci_o 4 [.ref q1, .null, .int (nI 0), .null, .null, .null, .int (nI 0), .int (nI 0), .null, .int (nI 0)]), (q1, ci_a cI 345)]) := hD
  refine lv_aload_n hx hb dX4_init_13 rfl (lv_at hl 0 rfl) ?_
  refine lv_sipush (v := nI 1380) hx hb dX4_init_14 (by decide) ?_
  refine ci_newa hx hb (hts (.arrayClass .int) (by decide +kernel)) hZ hP hD hS hA (by decide) (Nat.le_of_ble_eq_true rfl) (Nat.le_of_ble_eq_true rfl) dX4_init_17 (fun q2 H hP hD hS => ?_)
  have hP : va_P D vwCl ([(h0, ci_o 4 [.ref q1, .null, .int (nI 0), .null, .null, .null, .int (nI 0), .int (nI 0), .null, .int (nI 0)]), (q1, ci_a cI 345), (q2, ci_a cI 1380)]) H := hP
  have hD : va_D A ([(h0, ci_o 4 [.ref q1, .null, .int (nI 0), .null, .null, .null, .int (nI 0), .int (nI 0), .null, .int (nI 0)]), (q1, ci_a cI 345), (q2, ci_a cI 1380)]) := hD
  refine va_putF (D := D) (cl := vwCl) (ci := 4) (v := .ref q2) (ty := .array .int) (C := RX4) (T := TX4) (N := 10) hx hb hts inX4_init tyX4 tyX4_ok nmX4 hown hZ.1 hP hD hS 0 rfl rfl 1 (by decide) (hts (.fieldLink RX4 13 (TX4 1).1 (TX4 1).2.1 (TX4 1).2.2.1) (by decide +kernel)) (fun _ h9 => h9) rfl hin rfl (by decide +kernel) rfl rfl (Nat.le_of_ble_eq_true rfl) dX4_init_19 (fun H locs hP hD hS => ?_)
  have hP : va_P D vwCl ([(h0, ci_o 4 [.ref q1, .ref q2, .int (nI 0), .null, .null, .null, .int (nI 0), .int (nI 0), .null, .int (nI 0)]), (q1, ci_a cI 345), (q2, ci_a cI 1380)]) H := hP
  have hD : va_D A ([(h0, ci_o 4 [.ref q1, .ref q2, .int (nI 0), .null, .null, .null, .int (nI 0), .int (nI 0), .null, .int (nI 0)]), (q1, ci_a cI 345), (q2, ci_a cI 1380)]) := hD
  refine lv_aload_n hx hb dX4_init_22 rfl (lv_at hl 0 rfl) ?_
  refine lv_sipush (v := nI 345) hx hb dX4_init_23 (by decide) ?_
  refine ci_newa hx hb (hts (.arrayClass .int) (by decide +kernel)) hZ hP hD hS hA (by decide) (Nat.le_of_ble_eq_true rfl) (Nat.le_of_ble_eq_true rfl) dX4_init_26 (fun q4 H hP hD hS => ?_)
  have hP : va_P D vwCl ([(h0, ci_o 4 [.ref q1, .ref q2, .int (nI 0), .null, .null, .null, .int (nI 0), .int (nI 0), .null, .int (nI 0)]), (q1, ci_a cI 345), (q2, ci_a cI 1380), (q4, ci_a cI 345)]) H := hP
  have hD : va_D A ([(h0, ci_o 4 [.ref q1, .ref q2, .int (nI 0), .null, .null, .null, .int (nI 0), .int (nI 0), .null, .int (nI 0)]), (q1, ci_a cI 345), (q2, ci_a cI 1380), (q4, ci_a cI 345)]) := hD
  refine va_putF (D := D) (cl := vwCl) (ci := 4) (v := .ref q4) (ty := .array .int) (C := RX4) (T := TX4) (N := 10) hx hb hts inX4_init tyX4 tyX4_ok nmX4 hown hZ.1 hP hD hS 0 rfl rfl 3 (by decide) (hts (.fieldLink RX4 16 (TX4 3).1 (TX4 3).2.1 (TX4 3).2.2.1) (by decide +kernel)) (fun _ h9 => h9) rfl hin rfl (by decide +kernel) rfl rfl (Nat.le_of_ble_eq_true rfl) dX4_init_28 (fun H locs hP hD hS => ?_)
  have hP : va_P D vwCl ([(h0, ci_o 4 [.ref q1, .ref q2, .int (nI 0), .ref q4, .null, .null, .int (nI 0), .int (nI 0), .null, .int (nI 0)]), (q1, ci_a cI 345), (q2, ci_a cI 1380), (q4, ci_a cI 345)]) H := hP
  have hD : va_D A ([(h0, ci_o 4 [.ref q1, .ref q2, .int (nI 0), .ref q4, .null, .null, .int (nI 0), .int (nI 0), .null, .int (nI 0)]), (q1, ci_a cI 345), (q2, ci_a cI 1380), (q4, ci_a cI 345)]) := hD
  refine lv_aload_n hx hb dX4_init_31 rfl (lv_at hl 0 rfl) ?_
  refine lv_iconst (v := nI 5) hx hb dX4_init_32 (by decide) ?_
  refine ci_newa hx hb (hts (.arrayClass .int) (by decide +kernel)) hZ hP hD hS hA (by decide) (Nat.le_of_ble_eq_true rfl) (Nat.le_of_ble_eq_true rfl) dX4_init_33 (fun q5 H hP hD hS => ?_)
  have hP : va_P D vwCl ([(h0, ci_o 4 [.ref q1, .ref q2, .int (nI 0), .ref q4, .null, .null, .int (nI 0), .int (nI 0), .null, .int (nI 0)]), (q1, ci_a cI 345), (q2, ci_a cI 1380), (q4, ci_a cI 345), (q5, ci_a cI 5)]) H := hP
  have hD : va_D A ([(h0, ci_o 4 [.ref q1, .ref q2, .int (nI 0), .ref q4, .null, .null, .int (nI 0), .int (nI 0), .null, .int (nI 0)]), (q1, ci_a cI 345), (q2, ci_a cI 1380), (q4, ci_a cI 345), (q5, ci_a cI 5)]) := hD
  refine va_putF (D := D) (cl := vwCl) (ci := 4) (v := .ref q5) (ty := .array .int) (C := RX4) (T := TX4) (N := 10) hx hb hts inX4_init tyX4 tyX4_ok nmX4 hown hZ.1 hP hD hS 0 rfl rfl 4 (by decide) (hts (.fieldLink RX4 19 (TX4 4).1 (TX4 4).2.1 (TX4 4).2.2.1) (by decide +kernel)) (fun _ h9 => h9) rfl hin rfl (by decide +kernel) rfl rfl (Nat.le_of_ble_eq_true rfl) dX4_init_35 (fun H locs hP hD hS => ?_)
  have hP : va_P D vwCl ([(h0, ci_o 4 [.ref q1, .ref q2, .int (nI 0), .ref q4, .ref q5, .null, .int (nI 0), .int (nI 0), .null, .int (nI 0)]), (q1, ci_a cI 345), (q2, ci_a cI 1380), (q4, ci_a cI 345), (q5, ci_a cI 5)]) H := hP
  have hD : va_D A ([(h0, ci_o 4 [.ref q1, .ref q2, .int (nI 0), .ref q4, .ref q5, .null, .int (nI 0), .int (nI 0), .null, .int (nI 0)]), (q1, ci_a cI 345), (q2, ci_a cI 1380), (q4, ci_a cI 345), (q5, ci_a cI 5)]) := hD
  refine lv_aload_n hx hb dX4_init_38 rfl (lv_at hl 0 rfl) ?_
  refine lv_bipush (v := nI 100) hx hb dX4_init_39 (by decide) ?_
  refine ci_newa hx hb (hts (.arrayClass .int) (by decide +kernel)) hZ hP hD hS hA (by decide) (Nat.le_of_ble_eq_true rfl) (Nat.le_of_ble_eq_true rfl) dX4_init_41 (fun q6 H hP hD hS => ?_)
  have hP : va_P D vwCl ([(h0, ci_o 4 [.ref q1, .ref q2, .int (nI 0), .ref q4, .ref q5, .null, .int (nI 0), .int (nI 0), .null, .int (nI 0)]), (q1, ci_a cI 345), (q2, ci_a cI 1380), (q4, ci_a cI 345), (q5, ci_a cI 5), (q6, ci_a cI 100)]) H := hP
  have hD : va_D A ([(h0, ci_o 4 [.ref q1, .ref q2, .int (nI 0), .ref q4, .ref q5, .null, .int (nI 0), .int (nI 0), .null, .int (nI 0)]), (q1, ci_a cI 345), (q2, ci_a cI 1380), (q4, ci_a cI 345), (q5, ci_a cI 5), (q6, ci_a cI 100)]) := hD
  refine va_putF (D := D) (cl := vwCl) (ci := 4) (v := .ref q6) (ty := .array .int) (C := RX4) (T := TX4) (N := 10) hx hb hts inX4_init tyX4 tyX4_ok nmX4 hown hZ.1 hP hD hS 0 rfl rfl 5 (by decide) (hts (.fieldLink RX4 22 (TX4 5).1 (TX4 5).2.1 (TX4 5).2.2.1) (by decide +kernel)) (fun _ h9 => h9) rfl hin rfl (by decide +kernel) rfl rfl (Nat.le_of_ble_eq_true rfl) dX4_init_43 (fun H locs hP hD hS => ?_)
  have hP : va_P D vwCl ([(h0, ci_o 4 [.ref q1, .ref q2, .int (nI 0), .ref q4, .ref q5, .ref q6, .int (nI 0), .int (nI 0), .null, .int (nI 0)]), (q1, ci_a cI 345), (q2, ci_a cI 1380), (q4, ci_a cI 345), (q5, ci_a cI 5), (q6, ci_a cI 100)]) H := hP
  have hD : va_D A ([(h0, ci_o 4 [.ref q1, .ref q2, .int (nI 0), .ref q4, .ref q5, .ref q6, .int (nI 0), .int (nI 0), .null, .int (nI 0)]), (q1, ci_a cI 345), (q2, ci_a cI 1380), (q4, ci_a cI 345), (q5, ci_a cI 5), (q6, ci_a cI 100)]) := hD
  refine lv_aload_n hx hb dX4_init_46 rfl (lv_at hl 0 rfl) ?_
  refine lv_iconst (v := nI 4) hx hb dX4_init_47 (by decide) ?_
  refine ci_newa hx hb (hts (.arrayClass .int) (by decide +kernel)) hZ hP hD hS hA (by decide) (Nat.le_of_ble_eq_true rfl) (Nat.le_of_ble_eq_true rfl) dX4_init_48 (fun q9 H hP hD hS => ?_)
  have hP : va_P D vwCl ([(h0, ci_o 4 [.ref q1, .ref q2, .int (nI 0), .ref q4, .ref q5, .ref q6, .int (nI 0), .int (nI 0), .null, .int (nI 0)]), (q1, ci_a cI 345), (q2, ci_a cI 1380), (q4, ci_a cI 345), (q5, ci_a cI 5), (q6, ci_a cI 100), (q9, ci_a cI 4)]) H := hP
  have hD : va_D A ([(h0, ci_o 4 [.ref q1, .ref q2, .int (nI 0), .ref q4, .ref q5, .ref q6, .int (nI 0), .int (nI 0), .null, .int (nI 0)]), (q1, ci_a cI 345), (q2, ci_a cI 1380), (q4, ci_a cI 345), (q5, ci_a cI 5), (q6, ci_a cI 100), (q9, ci_a cI 4)]) := hD
  refine va_putF (D := D) (cl := vwCl) (ci := 4) (v := .ref q9) (ty := .array .int) (C := RX4) (T := TX4) (N := 10) hx hb hts inX4_init tyX4 tyX4_ok nmX4 hown hZ.1 hP hD hS 0 rfl rfl 8 (by decide) (hts (.fieldLink RX4 25 (TX4 8).1 (TX4 8).2.1 (TX4 8).2.2.1) (by decide +kernel)) (fun _ h9 => h9) rfl hin rfl (by decide +kernel) rfl rfl (Nat.le_of_ble_eq_true rfl) dX4_init_50 (fun H locs hP hD hS => ?_)
  have hP : va_P D vwCl ([(h0, ci_o 4 [.ref q1, .ref q2, .int (nI 0), .ref q4, .ref q5, .ref q6, .int (nI 0), .int (nI 0), .ref q9, .int (nI 0)]), (q1, ci_a cI 345), (q2, ci_a cI 1380), (q4, ci_a cI 345), (q5, ci_a cI 5), (q6, ci_a cI 100), (q9, ci_a cI 4)]) H := hP
  have hD : va_D A ([(h0, ci_o 4 [.ref q1, .ref q2, .int (nI 0), .ref q4, .ref q5, .ref q6, .int (nI 0), .int (nI 0), .ref q9, .int (nI 0)]), (q1, ci_a cI 345), (q2, ci_a cI 1380), (q4, ci_a cI 345), (q5, ci_a cI 5), (q6, ci_a cI 100), (q9, ci_a cI 4)]) := hD
  refine lv_aload_n hx hb dX4_init_53 rfl (lv_at hl 0 rfl) ?_
  refine va_get (D := D) (cl := vwCl) (ci := 4) (v := .ref q1) (C := RX4) (T := TX4) (N := 10) hx hb hts inX4_init hown hZ.1 hP 0 rfl rfl 0 (by decide) (hts (.fieldLink RX4 7 (TX4 0).1 (TX4 0).2.1 (TX4 0).2.2.1) (by decide +kernel)) (fun _ h9 => h9) rfl dX4_init_54 ?_
  refine lv_bipush (v := nI 12) hx hb dX4_init_57 (by decide) ?_
  refine lv_iconst (v := nI 0) hx hb dX4_init_59 (by decide) ?_
  refine va_iast (D := D) (cl := vwCl) (f := fun _ => nI 0) (n := 345) (cA := cI) hx hb hZ.1 hP hD hS 1 0 rfl rfl (vp_in_nI (by decide) (by decide)) dX4_init_60 (fun H locs hP hD hS => ?_)
  rw [ci_upd0] at hP hD
  refine W.widen (k := 6) (n := 2179) (Nat.le_of_ble_eq_true rfl) (Nat.le_of_ble_eq_true rfl) ?_
  exact W.vret hx hb hr (fun t ht hW => ⟨⟨(fun f => match f with | 1 => q1 | 2 => q2 | 4 => q4 | 5 => q5 | 6 => q6 | 9 => q9 | _ => 0), rfl, trivial, by rw [ht]; exact hP, hD⟩, hS.F ht⟩) hS.2.2 dX4_init_61
