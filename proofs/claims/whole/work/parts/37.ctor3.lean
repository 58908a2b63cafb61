/-! ===== History and ClientGuarantees: made ===== -/
theorem inX0_init : ∀ w ∈ u_ws RX0 TX0 3, w ∈ wsX0_init := by decide +kernel
theorem inX0_init2 : ∀ w ∈ u_ws RX2 TX2 12, w ∈ wsX0_init := by decide +kernel
theorem inX3_init : ∀ w ∈ u_ws RX3 TX3 4, w ∈ wsX3_init := by decide +kernel
theorem inX3_init0 : ∀ w ∈ u_ws RX0 TX0 3, w ∈ wsX3_init := by decide +kernel
theorem inX3_init1 : ∀ w ∈ u_ws RX1 TX1 8, w ∈ wsX3_init := by decide +kernel
theorem inX3_init2 : ∀ w ∈ u_ws RX2 TX2 12, w ∈ wsX3_init := by decide +kernel
abbrev ci_hU : Type := Nat × (Nat → Nat) × (Nat → Nat → Nat → Nat)
abbrev ci_h5 (cS : ClassId) (hh : Nat → Nat) : va_E := .inl (cS, 5, .inr (.inr (.inr (.inr (fun j => if j < 5 then some (hh j) else none)))))
/-- a History as made -/
def ci_hi (cI cJ cS : ClassId) (h0 : Nat) (u : ci_hU) : va_W := [(h0, ci_o 0 [.ref u.1, .int (nI 0), .int (nI 0)]), (u.1, ci_h5 cS u.2.1)] ++ ci_st cI cJ cS (u.2.1 0) (u.2.2 0) ++ ci_st cI cJ cS (u.2.1 1) (u.2.2 1) ++ ci_st cI cJ cS (u.2.1 2) (u.2.2 2) ++ ci_st cI cJ cS (u.2.1 3) (u.2.2 3) ++ ci_st cI cJ cS (u.2.1 4) (u.2.2 4)
theorem ci_up5 (a b c d e : Nat) : va_up (va_up (va_up (va_up (va_up (fun _ => none) (nI 0).toNatClampNeg (some a)) (nI 1).toNatClampNeg (some b)) (nI 2).toNatClampNeg (some c)) (nI 3).toNatClampNeg (some d)) (nI 4).toNatClampNeg (some e) = (fun j => if j < 5 then some ((fun j => match j with | 0 => a | 1 => b | 2 => c | 3 => d | _ => e) j) else none) := by
  rw [show (nI 0).toNatClampNeg = 0 from rfl, show (nI 1).toNatClampNeg = 1 from rfl, show (nI 2).toNatClampNeg = 2 from rfl, show (nI 3).toNatClampNeg = 3 from rfl, show (nI 4).toNatClampNeg = 4 from rfl]
  funext j
  rcases (show j = 0 ∨ j = 1 ∨ j = 2 ∨ j = 3 ∨ j = 4 ∨ 5 ≤ j by omega) with rfl | rfl | rfl | rfl | rfl | h
  · rfl
  · rfl
  · rfl
  · rfl
  · rfl
  · rw [if_neg (by omega)]
    unfold va_up
    repeat' (first | rw [if_neg (by omega)] | rfl)
set_option maxRecDepth 100000 in
set_option maxHeartbeats 4000000 in
theorem ci_X0 (l : Launch) : ci_Met l yX0_init wsX0_init ({ frames := 2, cells := 116, slots := 1840, locals := 32 } : Room) (0, [.null, .int (nI 0), .int (nI 0)]) 116 1840 ci_hi := by
  intro D cI cJ cS h0 sz
  refine Met.ofW (cc := cX0_init) (maxL := 2) (ret := none) (by decide) rfl ?_
  intro p e s m args below meth c s₁ B hml hv
  obtain ⟨rfl, hsz, hP, hZ⟩ := hv
  have hx := B.exec
  have hb := B.bytes
  have hr := B.returns
  have hts := atoms_spec (ws := wsX0_init) B.pre
  have hown : s.vm.findClass RX0 = some m.cls := findClass_of_methodNamed B.named
  have hin : meth.name = "<init>" := (name_of_methodNamed B.named B.method).1
  subst hsz
  have hD : va_D (va_A [(h0, (.inr (0, [.null, .int (nI 0), .int (nI 0)]) : va_E))] s.heap.size) [(h0, (.inr (0, [.null, .int (nI 0), .int (nI 0)]) : va_E))] := ci_D1 (Or.inl ⟨0, _, rfl⟩)
  generalize hAe : va_A [(h0, (.inr (0, [.null, .int (nI 0), .int (nI 0)]) : va_E))] s.heap.size = A at hD ⊢
  have hA : ∀ q : Nat, s.heap.size ≤ q → A q := fun q h => by rw [← hAe]; exact Or.inr h
  have hS : va_S A s.heap s.heap [] := va_S.rf
  have hl := lv_entry ([.ref h0]) (n := 2) (Nat.le_of_ble_eq_true rfl)
  rw [lg_entry_eq]
  generalize (lg_sl ([.ref h0]) ++ List.replicate (2 - (lg_sl ([.ref h0])).length) Slot.unset).toArray = ls at hl ⊢
  have hl : lv_has ls 2 [(0, .ref h0)] := hl
  refine lv_aload_n hx hb dX0_init_0 rfl (lv_at hl 0 rfl) ?_
  refine W.objInit hx hb hown (hts (.methodLink RX0 3 objectInit) (by decide +kernel)) (hts (.instanceMethod objectInit) (by decide +kernel)) (hts _ (List.mem_of_getElem? (i := 3) rfl)) rfl (by rw [hml]; exact hl.1) rfl dX0_init_1 (Nat.le_of_ble_eq_true rfl) (Nat.le_of_ble_eq_true rfl) ?_
  refine W.eq (g2 := F0 m 4 ls []) rfl ?_
  refine lv_aload_n hx hb dX0_init_4 rfl (lv_at hl 0 rfl) ?_
  refine lv_iconst (v := nI 5) hx hb dX0_init_5 (by decide) ?_
  refine ci_newq hx hb hown (hts (.classLink RX0 11 RX2) (by decide +kernel)) hZ hP hD hS hA (by decide) (Nat.le_of_ble_eq_true rfl) (Nat.le_of_ble_eq_true rfl) dX0_init_6 (fun q1 H hP hD hS => ?_)
  have hP : va_P D vwCl ([(h0, ci_o 0 [.null, .int (nI 0), .int (nI 0)]), (q1, (.inl (cS, 5, .inr (.inr (.inr (.inr (fun _ => none))))) : va_E))]) H := hP
  have hD : va_D A ([(h0, ci_o 0 [.null, .int (nI 0), .int (nI 0)]), (q1, (.inl (cS, 5, .inr (.inr (.inr (.inr (fun _ => none))))) : va_E))]) := hD
  refine va_putF (D := D) (cl := vwCl) (ci := 0) (v := .ref q1) (ty := .array (.object "ClientGuarantees$State")) (C := RX0) (T := TX0) (N := 3) hx hb hts inX0_init tyX0 tyX0_ok nmX0 hown hZ.1 hP hD hS 0 rfl rfl 0 (by decide) (hts (.fieldLink RX0 13 (TX0 0).1 (TX0 0).2.1 (TX0 0).2.2.1) (by decide +kernel)) (fun _ h9 => h9) rfl hin rfl (by decide +kernel) rfl rfl (Nat.le_of_ble_eq_true rfl) dX0_init_9 (fun H locs hP hD hS => ?_)
  have hP : va_P D vwCl ([(h0, ci_o 0 [.ref q1, .int (nI 0), .int (nI 0)]), (q1, (.inl (cS, 5, .inr (.inr (.inr (.inr (fun _ => none))))) : va_E))]) H := hP
  have hD : va_D A ([(h0, ci_o 0 [.ref q1, .int (nI 0), .int (nI 0)]), (q1, (.inl (cS, 5, .inr (.inr (.inr (.inr (fun _ => none))))) : va_E))]) := hD
  refine lv_aload_n hx hb dX0_init_12 rfl (lv_at hl 0 rfl) ?_
  refine lv_iconst (v := nI 0) hx hb dX0_init_13 (by decide) ?_
  refine va_put (D := D) (cl := vwCl) (ci := 0) (v := .int (nI 0)) (ty := .int) (C := RX0) (T := TX0) (N := 3) hx hb hts inX0_init tyX0 tyX0_ok nmX0 hown hZ.1 hP hD hS 0 rfl rfl 1 (by decide) (hts (.fieldLink RX0 17 (TX0 1).1 (TX0 1).2.1 (TX0 1).2.2.1) (by decide +kernel)) (fun _ h9 => h9) rfl (by decide +kernel) rfl rfl (Nat.le_of_ble_eq_true rfl) dX0_init_14 (fun H locs hP hD hS => ?_)
  have hP : va_P D vwCl ([(h0, ci_o 0 [.ref q1, .int (nI 0), .int (nI 0)]), (q1, (.inl (cS, 5, .inr (.inr (.inr (.inr (fun _ => none))))) : va_E))]) H := hP
  have hD : va_D A ([(h0, ci_o 0 [.ref q1, .int (nI 0), .int (nI 0)]), (q1, (.inl (cS, 5, .inr (.inr (.inr (.inr (fun _ => none))))) : va_E))]) := hD
  refine lv_aload_n hx hb dX0_init_17 rfl (lv_at hl 0 rfl) ?_
  refine lv_iconst (v := nI 0) hx hb dX0_init_18 (by decide) ?_
  refine va_put (D := D) (cl := vwCl) (ci := 0) (v := .int (nI 0)) (ty := .int) (C := RX0) (T := TX0) (N := 3) hx hb hts inX0_init tyX0 tyX0_ok nmX0 hown hZ.1 hP hD hS 0 rfl rfl 2 (by decide) (hts (.fieldLink RX0 21 (TX0 2).1 (TX0 2).2.1 (TX0 2).2.2.1) (by decide +kernel)) (fun _ h9 => h9) rfl (by decide +kernel) rfl rfl (Nat.le_of_ble_eq_true rfl) dX0_init_19 (fun H locs hP hD hS => ?_)
  have hP : va_P D vwCl ([(h0, ci_o 0 [.ref q1, .int (nI 0), .int (nI 0)]), (q1, (.inl (cS, 5, .inr (.inr (.inr (.inr (fun _ => none))))) : va_E))]) H := hP
  have hD : va_D A ([(h0, ci_o 0 [.ref q1, .int (nI 0), .int (nI 0)]), (q1, (.inl (cS, 5, .inr (.inr (.inr (.inr (fun _ => none))))) : va_E))]) := hD
  refine lv_iconst (v := nI 0) hx hb dX0_init_22 (by decide) ?_
  refine lv_istore_n (i := 1) (lv' := [(1, .int (nI 0)), (0, .ref h0)]) hx hb dX0_init_23 rfl hl (by decide) rfl (fun ls hl => ?_)
  refine lv_iload_n hx hb dX0_init_24 rfl (lv_at hl 0 rfl) ?_
  refine lv_iconst (v := nI 5) hx hb dX0_init_25 (by decide) ?_
  refine lv_icmp_ge (tgt := 48) hx hb dX0_init_26 (by decide) (fun h => absurd h (by decide)) (fun _ => ?_)
  refine lv_aload_n hx hb dX0_init_29 rfl (lv_at hl 1 rfl) ?_
  refine va_get (D := D) (cl := vwCl) (ci := 0) (v := .ref q1) (C := RX0) (T := TX0) (N := 3) hx hb hts inX0_init hown hZ.1 hP 0 rfl rfl 0 (by decide) (hts (.fieldLink RX0 13 (TX0 0).1 (TX0 0).2.1 (TX0 0).2.2.1) (by decide +kernel)) (fun _ h9 => h9) rfl dX0_init_30 ?_
  refine lv_iload_n hx hb dX0_init_33 rfl (lv_at hl 0 rfl) ?_
  refine va_new (D := D) (cl := vwCl) (ci := 2) (fs := [.int (nI 0), .null, .null, .null, .null, .null, .null, .null, .null, .null, .null, .null]) (C := RX2) (T := TX2) (N := 12) hx hb hts inX0_init2 tyX2 tyX2_ok hown (hts (.classLink RX0 11 RX2) (by decide +kernel)) (hts (.instantiable RX2 12) (by decide +kernel)) (hts (.initialized RX2) (by decide +kernel)) hZ.1 hP hD hS hA rfl (fun j hj => by rcases (show j = 0 ∨ j = 1 ∨ j = 2 ∨ j = 3 ∨ j = 4 ∨ j = 5 ∨ j = 6 ∨ j = 7 ∨ j = 8 ∨ j = 9 ∨ j = 10 ∨ j = 11 by omega) with rfl | rfl | rfl | rfl | rfl | rfl | rfl | rfl | rfl | rfl | rfl | rfl <;> rfl) (Nat.le_of_ble_eq_true rfl) (Nat.le_of_ble_eq_true rfl) dX0_init_34 (fun h1 H hP hD hS => ?_)
  refine lv_dup hx hb dX0_init_37 rfl ?_
  refine ci_callN ⟨hx, hb, hml, hown, hts⟩ (ci_X2 l) ⟨va_cnB (host := RX3) 0 hts gX0_init_X2_init_n24 rfl rfl rfl (hZ.2.2.2 _ (List.mem_of_getElem? (i := 2) rfl)) (hts (.initialized RX2) (by decide +kernel)) (by decide +kernel) ⟨Nat.le_of_ble_eq_true rfl, Nat.le_of_ble_eq_true rfl⟩, rfl, (hts (.instanceMethod yX2_init) (by decide +kernel))⟩ hZ hP hD hS hA hl.1 (Nat.le_of_ble_eq_true rfl) dX0_init_38 ⟨Nat.le_of_ble_eq_true rfl, Nat.le_of_ble_eq_true rfl⟩ (fun a1 H locs hP hD hS => ?_)
  refine va_astq (D := D) (cl := vwCl) (cA := cS) (n := 5) (f := (fun _ => none)) hx hb hZ.1 hP hD hS 1 2 2 2 rfl rfl rfl rfl (vp_in_nI (by decide) (by decide)) dX0_init_41 (fun H locs hP hD hS => ?_)
  have hP : va_P D vwCl ([(h0, ci_o 0 [.ref q1, .int (nI 0), .int (nI 0)]), (q1, (.inl (cS, 5, .inr (.inr (.inr (.inr (va_up (fun _ => none) (nI 0).toNatClampNeg (some h1)))))) : va_E))] ++ ci_st cI cJ cS h1 a1) H := hP
  have hD : va_D A ([(h0, ci_o 0 [.ref q1, .int (nI 0), .int (nI 0)]), (q1, (.inl (cS, 5, .inr (.inr (.inr (.inr (va_up (fun _ => none) (nI 0).toNatClampNeg (some h1)))))) : va_E))] ++ ci_st cI cJ cS h1 a1) := hD
  refine lv_iinc (k := 0) (v := nI 1) (lv' := [(1, .int (nI 1)), (0, .ref h0)]) hx hb dX0_init_42 hl rfl (by decide) (by decide) rfl (fun ls hl => ?_)
  refine lv_goto (tgt := 24) hx hb dX0_init_45 (by decide) ?_
  refine lv_iload_n hx hb dX0_init_24 rfl (lv_at hl 0 rfl) ?_
  refine lv_iconst (v := nI 5) hx hb dX0_init_25 (by decide) ?_
  refine lv_icmp_ge (tgt := 48) hx hb dX0_init_26 (by decide) (fun h => absurd h (by decide)) (fun _ => ?_)
  refine lv_aload_n hx hb dX0_init_29 rfl (lv_at hl 1 rfl) ?_
  refine va_get (D := D) (cl := vwCl) (ci := 0) (v := .ref q1) (C := RX0) (T := TX0) (N := 3) hx hb hts inX0_init hown hZ.1 hP 0 rfl rfl 0 (by decide) (hts (.fieldLink RX0 13 (TX0 0).1 (TX0 0).2.1 (TX0 0).2.2.1) (by decide +kernel)) (fun _ h9 => h9) rfl dX0_init_30 ?_
  refine lv_iload_n hx hb dX0_init_33 rfl (lv_at hl 0 rfl) ?_
  refine va_new (D := D) (cl := vwCl) (ci := 2) (fs := [.int (nI 0), .null, .null, .null, .null, .null, .null, .null, .null, .null, .null, .null]) (C := RX2) (T := TX2) (N := 12) hx hb hts inX0_init2 tyX2 tyX2_ok hown (hts (.classLink RX0 11 RX2) (by decide +kernel)) (hts (.instantiable RX2 12) (by decide +kernel)) (hts (.initialized RX2) (by decide +kernel)) hZ.1 hP hD hS hA rfl (fun j hj => by rcases (show j = 0 ∨ j = 1 ∨ j = 2 ∨ j = 3 ∨ j = 4 ∨ j = 5 ∨ j = 6 ∨ j = 7 ∨ j = 8 ∨ j = 9 ∨ j = 10 ∨ j = 11 by omega) with rfl | rfl | rfl | rfl | rfl | rfl | rfl | rfl | rfl | rfl | rfl | rfl <;> rfl) (Nat.le_of_ble_eq_true rfl) (Nat.le_of_ble_eq_true rfl) dX0_init_34 (fun h2 H hP hD hS => ?_)
  refine lv_dup hx hb dX0_init_37 rfl ?_
  refine ci_callN ⟨hx, hb, hml, hown, hts⟩ (ci_X2 l) ⟨va_cnB (host := RX3) 0 hts gX0_init_X2_init_n24 rfl rfl rfl (hZ.2.2.2 _ (List.mem_of_getElem? (i := 2) rfl)) (hts (.initialized RX2) (by decide +kernel)) (by decide +kernel) ⟨Nat.le_of_ble_eq_true rfl, Nat.le_of_ble_eq_true rfl⟩, rfl, (hts (.instanceMethod yX2_init) (by decide +kernel))⟩ hZ hP hD hS hA hl.1 (Nat.le_of_ble_eq_true rfl) dX0_init_38 ⟨Nat.le_of_ble_eq_true rfl, Nat.le_of_ble_eq_true rfl⟩ (fun a2 H locs hP hD hS => ?_)
  refine va_astq (D := D) (cl := vwCl) (cA := cS) (n := 5) (f := (va_up (fun _ => none) (nI 0).toNatClampNeg (some h1))) hx hb hZ.1 hP hD hS 1 2 25 2 rfl rfl rfl rfl (vp_in_nI (by decide) (by decide)) dX0_init_41 (fun H locs hP hD hS => ?_)
  have hP : va_P D vwCl ([(h0, ci_o 0 [.ref q1, .int (nI 0), .int (nI 0)]), (q1, (.inl (cS, 5, .inr (.inr (.inr (.inr (va_up (va_up (fun _ => none) (nI 0).toNatClampNeg (some h1)) (nI 1).toNatClampNeg (some h2)))))) : va_E))] ++ ci_st cI cJ cS h1 a1 ++ ci_st cI cJ cS h2 a2) H := hP
  have hD : va_D A ([(h0, ci_o 0 [.ref q1, .int (nI 0), .int (nI 0)]), (q1, (.inl (cS, 5, .inr (.inr (.inr (.inr (va_up (va_up (fun _ => none) (nI 0).toNatClampNeg (some h1)) (nI 1).toNatClampNeg (some h2)))))) : va_E))] ++ ci_st cI cJ cS h1 a1 ++ ci_st cI cJ cS h2 a2) := hD
  refine lv_iinc (k := 0) (v := nI 2) (lv' := [(1, .int (nI 2)), (0, .ref h0)]) hx hb dX0_init_42 hl rfl (by decide) (by decide) rfl (fun ls hl => ?_)
  refine lv_goto (tgt := 24) hx hb dX0_init_45 (by decide) ?_
  refine lv_iload_n hx hb dX0_init_24 rfl (lv_at hl 0 rfl) ?_
  refine lv_iconst (v := nI 5) hx hb dX0_init_25 (by decide) ?_
  refine lv_icmp_ge (tgt := 48) hx hb dX0_init_26 (by decide) (fun h => absurd h (by decide)) (fun _ => ?_)
  refine lv_aload_n hx hb dX0_init_29 rfl (lv_at hl 1 rfl) ?_
  refine va_get (D := D) (cl := vwCl) (ci := 0) (v := .ref q1) (C := RX0) (T := TX0) (N := 3) hx hb hts inX0_init hown hZ.1 hP 0 rfl rfl 0 (by decide) (hts (.fieldLink RX0 13 (TX0 0).1 (TX0 0).2.1 (TX0 0).2.2.1) (by decide +kernel)) (fun _ h9 => h9) rfl dX0_init_30 ?_
  refine lv_iload_n hx hb dX0_init_33 rfl (lv_at hl 0 rfl) ?_
  refine va_new (D := D) (cl := vwCl) (ci := 2) (fs := [.int (nI 0), .null, .null, .null, .null, .null, .null, .null, .null, .null, .null, .null]) (C := RX2) (T := TX2) (N := 12) hx hb hts inX0_init2 tyX2 tyX2_ok hown (hts (.classLink RX0 11 RX2) (by decide +kernel)) (hts (.instantiable RX2 12) (by decide +kernel)) (hts (.initialized RX2) (by decide +kernel)) hZ.1 hP hD hS hA rfl (fun j hj => by rcases (show j = 0 ∨ j = 1 ∨ j = 2 ∨ j = 3 ∨ j = 4 ∨ j = 5 ∨ j = 6 ∨ j = 7 ∨ j = 8 ∨ j = 9 ∨ j = 10 ∨ j = 11 by omega) with rfl | rfl | rfl | rfl | rfl | rfl | rfl | rfl | rfl | rfl | rfl | rfl <;> rfl) (Nat.le_of_ble_eq_true rfl) (Nat.le_of_ble_eq_true rfl) dX0_init_34 (fun h3 H hP hD hS => ?_)
  refine lv_dup hx hb dX0_init_37 rfl ?_
  refine ci_callN ⟨hx, hb, hml, hown, hts⟩ (ci_X2 l) ⟨va_cnB (host := RX3) 0 hts gX0_init_X2_init_n24 rfl rfl rfl (hZ.2.2.2 _ (List.mem_of_getElem? (i := 2) rfl)) (hts (.initialized RX2) (by decide +kernel)) (by decide +kernel) ⟨Nat.le_of_ble_eq_true rfl, Nat.le_of_ble_eq_true rfl⟩, rfl, (hts (.instanceMethod yX2_init) (by decide +kernel))⟩ hZ hP hD hS hA hl.1 (Nat.le_of_ble_eq_true rfl) dX0_init_38 ⟨Nat.le_of_ble_eq_true rfl, Nat.le_of_ble_eq_true rfl⟩ (fun a3 H locs hP hD hS => ?_)
  refine va_astq (D := D) (cl := vwCl) (cA := cS) (n := 5) (f := (va_up (va_up (fun _ => none) (nI 0).toNatClampNeg (some h1)) (nI 1).toNatClampNeg (some h2))) hx hb hZ.1 hP hD hS 1 2 48 2 rfl rfl rfl rfl (vp_in_nI (by decide) (by decide)) dX0_init_41 (fun H locs hP hD hS => ?_)
  have hP : va_P D vwCl ([(h0, ci_o 0 [.ref q1, .int (nI 0), .int (nI 0)]), (q1, (.inl (cS, 5, .inr (.inr (.inr (.inr (va_up (va_up (va_up (fun _ => none) (nI 0).toNatClampNeg (some h1)) (nI 1).toNatClampNeg (some h2)) (nI 2).toNatClampNeg (some h3)))))) : va_E))] ++ ci_st cI cJ cS h1 a1 ++ ci_st cI cJ cS h2 a2 ++ ci_st cI cJ cS h3 a3) H := hP
  have hD : va_D A ([(h0, ci_o 0 [.ref q1, .int (nI 0), .int (nI 0)]), (q1, (.inl (cS, 5, .inr (.inr (.inr (.inr (va_up (va_up (va_up (fun _ => none) (nI 0).toNatClampNeg (some h1)) (nI 1).toNatClampNeg (some h2)) (nI 2).toNatClampNeg (some h3)))))) : va_E))] ++ ci_st cI cJ cS h1 a1 ++ ci_st cI cJ cS h2 a2 ++ ci_st cI cJ cS h3 a3) := hD
  refine lv_iinc (k := 0) (v := nI 3) (lv' := [(1, .int (nI 3)), (0, .ref h0)]) hx hb dX0_init_42 hl rfl (by decide) (by decide) rfl (fun ls hl => ?_)
  refine lv_goto (tgt := 24) hx hb dX0_init_45 (by decide) ?_
  refine lv_iload_n hx hb dX0_init_24 rfl (lv_at hl 0 rfl) ?_
  refine lv_iconst (v := nI 5) hx hb dX0_init_25 (by decide) ?_
  refine lv_icmp_ge (tgt := 48) hx hb dX0_init_26 (by decide) (fun h => absurd h (by decide)) (fun _ => ?_)
  refine lv_aload_n hx hb dX0_init_29 rfl (lv_at hl 1 rfl) ?_
  refine va_get (D := D) (cl := vwCl) (ci := 0) (v := .ref q1) (C := RX0) (T := TX0) (N := 3) hx hb hts inX0_init hown hZ.1 hP 0 rfl rfl 0 (by decide) (hts (.fieldLink RX0 13 (TX0 0).1 (TX0 0).2.1 (TX0 0).2.2.1) (by decide +kernel)) (fun _ h9 => h9) rfl dX0_init_30 ?_
  refine lv_iload_n hx hb dX0_init_33 rfl (lv_at hl 0 rfl) ?_
  refine va_new (D := D) (cl := vwCl) (ci := 2) (fs := [.int (nI 0), .null, .null, .null, .null, .null, .null, .null, .null, .null, .null, .null]) (C := RX2) (T := TX2) (N := 12) hx hb hts inX0_init2 tyX2 tyX2_ok hown (hts (.classLink RX0 11 RX2) (by decide +kernel)) (hts (.instantiable RX2 12) (by decide +kernel)) (hts (.initialized RX2) (by decide +kernel)) hZ.1 hP hD hS hA rfl (fun j hj => by rcases (show j = 0 ∨ j = 1 ∨ j = 2 ∨ j = 3 ∨ j = 4 ∨ j = 5 ∨ j = 6 ∨ j = 7 ∨ j = 8 ∨ j = 9 ∨ j = 10 ∨ j = 11 by omega) with rfl | rfl | rfl | rfl | rfl | rfl | rfl | rfl | rfl | rfl | rfl | rfl <;> rfl) (Nat.le_of_ble_eq_true rfl) (Nat.le_of_ble_eq_true rfl) dX0_init_34 (fun h4 H hP hD hS => ?_)
  refine lv_dup hx hb dX0_init_37 rfl ?_
  refine ci_callN ⟨hx, hb, hml, hown, hts⟩ (ci_X2 l) ⟨va_cnB (host := RX3) 0 hts gX0_init_X2_init_n24 rfl rfl rfl (hZ.2.2.2 _ (List.mem_of_getElem? (i := 2) rfl)) (hts (.initialized RX2) (by decide +kernel)) (by decide +kernel) ⟨Nat.le_of_ble_eq_true rfl, Nat.le_of_ble_eq_true rfl⟩, rfl, (hts (.instanceMethod yX2_init) (by decide +kernel))⟩ hZ hP hD hS hA hl.1 (Nat.le_of_ble_eq_true rfl) dX0_init_38 ⟨Nat.le_of_ble_eq_true rfl, Nat.le_of_ble_eq_true rfl⟩ (fun a4 H locs hP hD hS => ?_)
  refine va_astq (D := D) (cl := vwCl) (cA := cS) (n := 5) (f := (va_up (va_up (va_up (fun _ => none) (nI 0).toNatClampNeg (some h1)) (nI 1).toNatClampNeg (some h2)) (nI 2).toNatClampNeg (some h3))) hx hb hZ.1 hP hD hS 1 2 71 2 rfl rfl rfl rfl (vp_in_nI (by decide) (by decide)) dX0_init_41 (fun H locs hP hD hS => ?_)
  have hP : va_P D vwCl ([(h0, ci_o 0 [.ref q1, .int (nI 0), .int (nI 0)]), (q1, (.inl (cS, 5, .inr (.inr (.inr (.inr (va_up (va_up (va_up (va_up (fun _ => none) (nI 0).toNatClampNeg (some h1)) (nI 1).toNatClampNeg (some h2)) (nI 2).toNatClampNeg (some h3)) (nI 3).toNatClampNeg (some h4)))))) : va_E))] ++ ci_st cI cJ cS h1 a1 ++ ci_st cI cJ cS h2 a2 ++ ci_st cI cJ cS h3 a3 ++ ci_st cI cJ cS h4 a4) H := hP
  have hD : va_D A ([(h0, ci_o 0 [.ref q1, .int (nI 0), .int (nI 0)]), (q1, (.inl (cS, 5, .inr (.inr (.inr (.inr (va_up (va_up (va_up (va_up (fun _ => none) (nI 0).toNatClampNeg (some h1)) (nI 1).toNatClampNeg (some h2)) (nI 2).toNatClampNeg (some h3)) (nI 3).toNatClampNeg (some h4)))))) : va_E))] ++ ci_st cI cJ cS h1 a1 ++ ci_st cI cJ cS h2 a2 ++ ci_st cI cJ cS h3 a3 ++ ci_st cI cJ cS h4 a4) := hD
  refine lv_iinc (k := 0) (v := nI 4) (lv' := [(1, .int (nI 4)), (0, .ref h0)]) hx hb dX0_init_42 hl rfl (by decide) (by decide) rfl (fun ls hl => ?_)
  refine lv_goto (tgt := 24) hx hb dX0_init_45 (by decide) ?_
  refine lv_iload_n hx hb dX0_init_24 rfl (lv_at hl 0 rfl) ?_
  refine lv_iconst (v := nI 5) hx hb dX0_init_25 (by decide) ?_
  refine lv_icmp_ge (tgt := 48) hx hb dX0_init_26 (by decide) (fun h => absurd h (by decide)) (fun _ => ?_)
  refine lv_aload_n hx hb dX0_init_29 rfl (lv_at hl 1 rfl) ?_
  refine va_get (D := D) (cl := vwCl) (ci := 0) (v := .ref q1) (C := RX0) (T := TX0) (N := 3) hx hb hts inX0_init hown hZ.1 hP 0 rfl rfl 0 (by decide) (hts (.fieldLink RX0 13 (TX0 0).1 (TX0 0).2.1 (TX0 0).2.2.1) (by decide +kernel)) (fun _ h9 => h9) rfl dX0_init_30 ?_
  refine lv_iload_n hx hb dX0_init_33 rfl (lv_at hl 0 rfl) ?_
  refine va_new (D := D) (cl := vwCl) (ci := 2) (fs := [.int (nI 0), .null, .null, .null, .null, .null, .null, .null, .null, .null, .null, .null]) (C := RX2) (T := TX2) (N := 12) hx hb hts inX0_init2 tyX2 tyX2_ok hown (hts (.classLink RX0 11 RX2) (by decide +kernel)) (hts (.instantiable RX2 12) (by decide +kernel)) (hts (.initialized RX2) (by decide +kernel)) hZ.1 hP hD hS hA rfl (fun j hj => by rcases (show j = 0 ∨ j = 1 ∨ j = 2 ∨ j = 3 ∨ j = 4 ∨ j = 5 ∨ j = 6 ∨ j = 7 ∨ j = 8 ∨ j = 9 ∨ j = 10 ∨ j = 11 by omega) with rfl | rfl | rfl | rfl | rfl | rfl | rfl | rfl | rfl | rfl | rfl | rfl <;> rfl) (Nat.le_of_ble_eq_true rfl) (Nat.le_of_ble_eq_true rfl) dX0_init_34 (fun h5 H hP hD hS => ?_)
  refine lv_dup hx hb dX0_init_37 rfl ?_
  refine ci_callN ⟨hx, hb, hml, hown, hts⟩ (ci_X2 l) ⟨va_cnB (host := RX3) 0 hts gX0_init_X2_init_n24 rfl rfl rfl (hZ.2.2.2 _ (List.mem_of_getElem? (i := 2) rfl)) (hts (.initialized RX2) (by decide +kernel)) (by decide +kernel) ⟨Nat.le_of_ble_eq_true rfl, Nat.le_of_ble_eq_true rfl⟩, rfl, (hts (.instanceMethod yX2_init) (by decide +kernel))⟩ hZ hP hD hS hA hl.1 (Nat.le_of_ble_eq_true rfl) dX0_init_38 ⟨Nat.le_of_ble_eq_true rfl, Nat.le_of_ble_eq_true rfl⟩ (fun a5 H locs hP hD hS => ?_)
  refine va_astq (D := D) (cl := vwCl) (cA := cS) (n := 5) (f := (va_up (va_up (va_up (va_up (fun _ => none) (nI 0).toNatClampNeg (some h1)) (nI 1).toNatClampNeg (some h2)) (nI 2).toNatClampNeg (some h3)) (nI 3).toNatClampNeg (some h4))) hx hb hZ.1 hP hD hS 1 2 94 2 rfl rfl rfl rfl (vp_in_nI (by decide) (by decide)) dX0_init_41 (fun H locs hP hD hS => ?_)
  have hP : va_P D vwCl ([(h0, ci_o 0 [.ref q1, .int (nI 0), .int (nI 0)]), (q1, (.inl (cS, 5, .inr (.inr (.inr (.inr (va_up (va_up (va_up (va_up (va_up (fun _ => none) (nI 0).toNatClampNeg (some h1)) (nI 1).toNatClampNeg (some h2)) (nI 2).toNatClampNeg (some h3)) (nI 3).toNatClampNeg (some h4)) (nI 4).toNatClampNeg (some h5)))))) : va_E))] ++ ci_st cI cJ cS h1 a1 ++ ci_st cI cJ cS h2 a2 ++ ci_st cI cJ cS h3 a3 ++ ci_st cI cJ cS h4 a4 ++ ci_st cI cJ cS h5 a5) H := hP
  have hD : va_D A ([(h0, ci_o 0 [.ref q1, .int (nI 0), .int (nI 0)]), (q1, (.inl (cS, 5, .inr (.inr (.inr (.inr (va_up (va_up (va_up (va_up (va_up (fun _ => none) (nI 0).toNatClampNeg (some h1)) (nI 1).toNatClampNeg (some h2)) (nI 2).toNatClampNeg (some h3)) (nI 3).toNatClampNeg (some h4)) (nI 4).toNatClampNeg (some h5)))))) : va_E))] ++ ci_st cI cJ cS h1 a1 ++ ci_st cI cJ cS h2 a2 ++ ci_st cI cJ cS h3 a3 ++ ci_st cI cJ cS h4 a4 ++ ci_st cI cJ cS h5 a5) := hD
  refine lv_iinc (k := 0) (v := nI 5) (lv' := [(1, .int (nI 5)), (0, .ref h0)]) hx hb dX0_init_42 hl rfl (by decide) (by decide) rfl (fun ls hl => ?_)
  refine lv_goto (tgt := 24) hx hb dX0_init_45 (by decide) ?_
  refine lv_iload_n hx hb dX0_init_24 rfl (lv_at hl 0 rfl) ?_
  refine lv_iconst (v := nI 5) hx hb dX0_init_25 (by decide) ?_
  refine lv_icmp_ge (tgt := 48) hx hb dX0_init_26 (by decide) (fun _ => ?_) (fun h => absurd (by decide) h)
  rw [ci_up5] at hP hD
  refine W.widen (k := 116) (n := 1840) (Nat.le_of_ble_eq_true rfl) (Nat.le_of_ble_eq_true rfl) ?_
  exact W.vret hx hb hr (fun t ht hW => ⟨⟨(q1, (fun j => match j with | 0 => h1 | 1 => h2 | 2 => h3 | 3 => h4 | _ => h5), (fun j => match j with | 0 => a1 | 1 => a2 | 2 => a3 | 3 => a4 | _ => a5)), rfl, trivial, by rw [ht]; exact hP, hD⟩, hS.F ht⟩) hS.2.2 dX0_init_48
abbrev ci_cU : Type := (Nat × (Nat → Nat → Nat)) × (Nat × ci_hU) × (Nat × Nat × Nat × Nat × (Nat → Nat)) × Nat
/-- a ClientGuarantees as made -/
def ci_cg (cI cJ cS : ClassId) (h0 : Nat) (u : ci_cU) : va_W := [(h0, ci_o 3 [.ref u.1.1, .ref u.2.1.1, .ref u.2.2.1.1, .ref u.2.2.2])] ++ ci_st cI cJ cS u.1.1 u.1.2 ++ ci_hi cI cJ cS u.2.1.1 u.2.1.2 ++ ci_sc cI cJ cS u.2.2.1.1 u.2.2.1.2 ++ [(u.2.2.2, ci_a cI 5)]
set_option maxRecDepth 100000 in
set_option maxHeartbeats 4000000 in
theorem ci_X3 (l : Launch) : ci_Met l yX3_init wsX3_init ({ frames := 3, cells := 179, slots := 2527, locals := 53 } : Room) (3, [.null, .null, .null, .null]) 179 2527 ci_cg := by
  intro D cI cJ cS h0 sz
  refine Met.ofW (cc := cX3_init) (maxL := 1) (ret := none) (by decide) rfl ?_
  intro p e s m args below meth c s₁ B hml hv
  obtain ⟨rfl, hsz, hP, hZ⟩ := hv
  have hx := B.exec
  have hb := B.bytes
  have hr := B.returns
  have hts := atoms_spec (ws := wsX3_init) B.pre
  have hown : s.vm.findClass RX3 = some m.cls := findClass_of_methodNamed B.named
  have hin : meth.name = "<init>" := (name_of_methodNamed B.named B.method).1
  subst hsz
  have hD : va_D (va_A [(h0, (.inr (3, [.null, .null, .null, .null]) : va_E))] s.heap.size) [(h0, (.inr (3, [.null, .null, .null, .null]) : va_E))] := ci_D1 (Or.inl ⟨0, _, rfl⟩)
  generalize hAe : va_A [(h0, (.inr (3, [.null, .null, .null, .null]) : va_E))] s.heap.size = A at hD ⊢
  have hA : ∀ q : Nat, s.heap.size ≤ q → A q := fun q h => by rw [← hAe]; exact Or.inr h
  have hS : va_S A s.heap s.heap [] := va_S.rf
  have hl := lv_entry ([.ref h0]) (n := 1) (Nat.le_of_ble_eq_true rfl)
  rw [lg_entry_eq]
  generalize (lg_sl ([.ref h0]) ++ List.replicate (1 - (lg_sl ([.ref h0])).length) Slot.unset).toArray = ls at hl ⊢
  have hl : lv_has ls 1 [(0, .ref h0)] := hl
  refine lv_aload_n hx hb dX3_init_0 rfl (lv_at hl 0 rfl) ?_
  refine W.objInit hx hb hown (hts (.methodLink RX3 3 objectInit) (by decide +kernel)) (hts (.instanceMethod objectInit) (by decide +kernel)) (hts _ (List.mem_of_getElem? (i := 3) rfl)) rfl (by rw [hml]; exact hl.1) rfl dX3_init_1 (Nat.le_of_ble_eq_true rfl) (Nat.le_of_ble_eq_true rfl) ?_
  refine W.eq (g2 := F0 m 4 ls []) rfl ?_
  refine lv_aload_n hx hb dX3_init_4 rfl (lv_at hl 0 rfl) ?_
  refine va_new (D := D) (cl := vwCl) (ci := 2) (fs := [.int (nI 0), .null, .null, .null, .null, .null, .null, .null, .null, .null, .null, .null]) (C := RX2) (T := TX2) (N := 12) hx hb hts inX3_init2 tyX2 tyX2_ok hown (hts (.classLink RX3 9 RX2) (by decide +kernel)) (hts (.instantiable RX2 12) (by decide +kernel)) (hts (.initialized RX2) (by decide +kernel)) hZ.1 hP hD hS hA rfl (fun j hj => by rcases (show j = 0 ∨ j = 1 ∨ j = 2 ∨ j = 3 ∨ j = 4 ∨ j = 5 ∨ j = 6 ∨ j = 7 ∨ j = 8 ∨ j = 9 ∨ j = 10 ∨ j = 11 by omega) with rfl | rfl | rfl | rfl | rfl | rfl | rfl | rfl | rfl | rfl | rfl | rfl <;> rfl) (Nat.le_of_ble_eq_true rfl) (Nat.le_of_ble_eq_true rfl) dX3_init_5 (fun qs H hP hD hS => ?_)
  refine lv_dup hx hb dX3_init_8 rfl ?_
  refine ci_callN ⟨hx, hb, hml, hown, hts⟩ (ci_X2 l) ⟨va_cnB (host := RX3) 0 hts gX3_init_X2_init_n11 rfl rfl rfl (hZ.2.2.2 _ (List.mem_of_getElem? (i := 0) rfl)) (hts (.initialized RX2) (by decide +kernel)) (by decide +kernel) ⟨Nat.le_of_ble_eq_true rfl, Nat.le_of_ble_eq_true rfl⟩, rfl, (hts (.instanceMethod yX2_init) (by decide +kernel))⟩ hZ hP hD hS hA hl.1 (Nat.le_of_ble_eq_true rfl) dX3_init_9 ⟨Nat.le_of_ble_eq_true rfl, Nat.le_of_ble_eq_true rfl⟩ (fun us H locs hP hD hS => ?_)
  refine va_putF (D := D) (cl := vwCl) (ci := 3) (v := .ref qs) (ty := .object "ClientGuarantees$State") (C := RX3) (T := TX3) (N := 4) hx hb hts inX3_init tyX3 tyX3_ok nmX3 hown hZ.1 hP hD hS 0 rfl rfl 0 (by decide) (hts (.fieldLink RX3 12 (TX3 0).1 (TX3 0).2.1 (TX3 0).2.2.1) (by decide +kernel)) (fun _ h9 => h9) rfl hin rfl (by decide +kernel) rfl rfl (Nat.le_of_ble_eq_true rfl) dX3_init_12 (fun H locs hP hD hS => ?_)
  have hP : va_P D vwCl ([(h0, ci_o 3 [.ref qs, .null, .null, .null])] ++ ci_st cI cJ cS qs us) H := hP
  have hD : va_D A ([(h0, ci_o 3 [.ref qs, .null, .null, .null])] ++ ci_st cI cJ cS qs us) := hD
  refine lv_aload_n hx hb dX3_init_15 rfl (lv_at hl 0 rfl) ?_
  refine va_new (D := D) (cl := vwCl) (ci := 0) (fs := [.null, .int (nI 0), .int (nI 0)]) (C := RX0) (T := TX0) (N := 3) hx hb hts inX3_init0 tyX0 tyX0_ok hown (hts (.classLink RX3 16 RX0) (by decide +kernel)) (hts (.instantiable RX0 3) (by decide +kernel)) (hts (.initialized RX0) (by decide +kernel)) hZ.1 hP hD hS hA rfl (fun j hj => by rcases (show j = 0 ∨ j = 1 ∨ j = 2 by omega) with rfl | rfl | rfl <;> rfl) (Nat.le_of_ble_eq_true rfl) (Nat.le_of_ble_eq_true rfl) dX3_init_16 (fun qh H hP hD hS => ?_)
  refine lv_dup hx hb dX3_init_19 rfl ?_
  refine ci_callI ⟨hx, hb, hml, hown, hts⟩ (ci_X0 l) (cwI 0 hts gX3_init_X0_init rfl rfl rfl (hts (.initialized RX0) (by decide +kernel)) (hts (.methodLink RX3 18 yX0_init) (by decide +kernel)) (hts (.instanceMethod yX0_init) (by decide +kernel)) rfl (by decide +kernel) ⟨Nat.le_of_ble_eq_true rfl, Nat.le_of_ble_eq_true rfl⟩) hZ hP hD hS hA hl.1 (Nat.le_of_ble_eq_true rfl) dX3_init_20 ⟨Nat.le_of_ble_eq_true rfl, Nat.le_of_ble_eq_true rfl⟩ (fun uh H locs hP hD hS => ?_)
  refine va_putF (D := D) (cl := vwCl) (ci := 3) (v := .ref qh) (ty := .object "ClientGuarantees$History") (C := RX3) (T := TX3) (N := 4) hx hb hts inX3_init tyX3 tyX3_ok nmX3 hown hZ.1 hP hD hS 0 rfl rfl 1 (by decide) (hts (.fieldLink RX3 19 (TX3 1).1 (TX3 1).2.1 (TX3 1).2.2.1) (by decide +kernel)) (fun _ h9 => h9) rfl hin rfl (by decide +kernel) rfl rfl (Nat.le_of_ble_eq_true rfl) dX3_init_23 (fun H locs hP hD hS => ?_)
  have hP : va_P D vwCl ([(h0, ci_o 3 [.ref qs, .ref qh, .null, .null])] ++ ci_st cI cJ cS qs us ++ ci_hi cI cJ cS qh uh) H := hP
  have hD : va_D A ([(h0, ci_o 3 [.ref qs, .ref qh, .null, .null])] ++ ci_st cI cJ cS qs us ++ ci_hi cI cJ cS qh uh) := hD
  refine lv_aload_n hx hb dX3_init_26 rfl (lv_at hl 0 rfl) ?_
  refine va_new (D := D) (cl := vwCl) (ci := 1) (fs := [.null, .int (nI 0), .null, .null, .int (nI 0), .int (nI 0), .int (nI 0), .int (nI 0)]) (C := RX1) (T := TX1) (N := 8) hx hb hts inX3_init1 tyX1 tyX1_ok hown (hts (.classLink RX3 23 RX1) (by decide +kernel)) (hts (.instantiable RX1 8) (by decide +kernel)) (hts (.initialized RX1) (by decide +kernel)) hZ.1 hP hD hS hA rfl (fun j hj => by rcases (show j = 0 ∨ j = 1 ∨ j = 2 ∨ j = 3 ∨ j = 4 ∨ j = 5 ∨ j = 6 ∨ j = 7 by omega) with rfl | rfl | rfl | rfl | rfl | rfl | rfl | rfl <;> rfl) (Nat.le_of_ble_eq_true rfl) (Nat.le_of_ble_eq_true rfl) dX3_init_27 (fun qc H hP hD hS => ?_)
  refine lv_dup hx hb dX3_init_30 rfl ?_
  refine ci_callN ⟨hx, hb, hml, hown, hts⟩ (ci_X1 l) ⟨va_cnB (host := RX3) 0 hts gX3_init_X1_init_n25 rfl rfl rfl (hZ.2.2.2 _ (List.mem_of_getElem? (i := 1) rfl)) (hts (.initialized RX1) (by decide +kernel)) (by decide +kernel) ⟨Nat.le_of_ble_eq_true rfl, Nat.le_of_ble_eq_true rfl⟩, rfl, (hts (.instanceMethod yX1_init) (by decide +kernel))⟩ hZ hP hD hS hA hl.1 (Nat.le_of_ble_eq_true rfl) dX3_init_31 ⟨Nat.le_of_ble_eq_true rfl, Nat.le_of_ble_eq_true rfl⟩ (fun uc H locs hP hD hS => ?_)
  refine va_putF (D := D) (cl := vwCl) (ci := 3) (v := .ref qc) (ty := .object "ClientGuarantees$Script") (C := RX3) (T := TX3) (N := 4) hx hb hts inX3_init tyX3 tyX3_ok nmX3 hown hZ.1 hP hD hS 0 rfl rfl 2 (by decide) (hts (.fieldLink RX3 26 (TX3 2).1 (TX3 2).2.1 (TX3 2).2.2.1) (by decide +kernel)) (fun _ h9 => h9) rfl hin rfl (by decide +kernel) rfl rfl (Nat.le_of_ble_eq_true rfl) dX3_init_34 (fun H locs hP hD hS => ?_)
  have hP : va_P D vwCl ([(h0, ci_o 3 [.ref qs, .ref qh, .ref qc, .null])] ++ ci_st cI cJ cS qs us ++ ci_hi cI cJ cS qh uh ++ ci_sc cI cJ cS qc uc) H := hP
  have hD : va_D A ([(h0, ci_o 3 [.ref qs, .ref qh, .ref qc, .null])] ++ ci_st cI cJ cS qs us ++ ci_hi cI cJ cS qh uh ++ ci_sc cI cJ cS qc uc) := hD
  refine lv_aload_n hx hb dX3_init_37 rfl (lv_at hl 0 rfl) ?_
  refine lv_iconst (v := nI 5) hx hb dX3_init_38 (by decide) ?_
  refine ci_newa hx hb (hts (.arrayClass .int) (by decide +kernel)) hZ hP hD hS hA (by decide) (Nat.le_of_ble_eq_true rfl) (Nat.le_of_ble_eq_true rfl) dX3_init_39 (fun qe H hP hD hS => ?_)
  have hP : va_P D vwCl ([(h0, ci_o 3 [.ref qs, .ref qh, .ref qc, .null])] ++ ci_st cI cJ cS qs us ++ ci_hi cI cJ cS qh uh ++ ci_sc cI cJ cS qc uc ++ [(qe, ci_a cI 5)]) H := hP
  have hD : va_D A ([(h0, ci_o 3 [.ref qs, .ref qh, .ref qc, .null])] ++ ci_st cI cJ cS qs us ++ ci_hi cI cJ cS qh uh ++ ci_sc cI cJ cS qc uc ++ [(qe, ci_a cI 5)]) := hD
  refine va_putF (D := D) (cl := vwCl) (ci := 3) (v := .ref qe) (ty := .array .int) (C := RX3) (T := TX3) (N := 4) hx hb hts inX3_init tyX3 tyX3_ok nmX3 hown hZ.1 hP hD hS 0 rfl rfl 3 (by decide) (hts (.fieldLink RX3 30 (TX3 3).1 (TX3 3).2.1 (TX3 3).2.2.1) (by decide +kernel)) (fun _ h9 => h9) rfl hin rfl (by decide +kernel) rfl rfl (Nat.le_of_ble_eq_true rfl) dX3_init_41 (fun H locs hP hD hS => ?_)
  have hP : va_P D vwCl ([(h0, ci_o 3 [.ref qs, .ref qh, .ref qc, .ref qe])] ++ ci_st cI cJ cS qs us ++ ci_hi cI cJ cS qh uh ++ ci_sc cI cJ cS qc uc ++ [(qe, ci_a cI 5)]) H := hP
  have hD : va_D A ([(h0, ci_o 3 [.ref qs, .ref qh, .ref qc, .ref qe])] ++ ci_st cI cJ cS qs us ++ ci_hi cI cJ cS qh uh ++ ci_sc cI cJ cS qc uc ++ [(qe, ci_a cI 5)]) := hD
  refine W.widen (k := 179) (n := 2527) (Nat.le_of_ble_eq_true rfl) (Nat.le_of_ble_eq_true rfl) ?_
  exact W.vret hx hb hr (fun t ht hW => ⟨⟨((qs, us), (qh, uh), (qc, uc), qe), rfl, trivial, by rw [ht]; exact hP, hD⟩, hS.F ht⟩) hS.2.2 dX3_init_44
