/-! ===== History, ClientGuarantees: small methods ===== -/
theorem cg_cy_n {M : cg_M} {s t b : Nat} (h : b ≠ t) : cg_cy M s t b = M b := by
  funext x
  unfold cg_cy
  rw [if_neg (fun z => h z.1)]
theorem cg_up_n {M : cg_M} {b x b' : Nat} {v : Int32} (h : b' ≠ b) : cg_up M b x v b' = M b' := by
  unfold cg_up
  exact cg_sb_n h
theorem cg_up_s (M : cg_M) (b x : Nat) (v : Int32) : cg_up M b x v b x = v := by rw [cg_up_at]; simp
theorem cg_up_o {M : cg_M} {b x x' : Nat} {v : Int32} (h : x' ≠ x) : cg_up M b x v b x' = M b x' := by rw [cg_up_at]; simp [h]
def cg_keep (M : cg_M) (f z : Nat) : cg_M := cg_up (cg_up M 14 1 (nI ((f + 1) % 5))) 14 2 (nI (min (z + 1) 4))
def cg_err (M : cg_M) (e : Nat) : cg_M := cg_up M 15 e (M 15 e + nI 1)
def cg_do (M : cg_M) (f : Nat) (P : Nat → Int32) : cg_M := cg_sb (cg_cy M 0 (f + 1)) 0 P
theorem cg_do_14 {M : cg_M} {f : Nat} {P : Nat → Int32} (hf : f < 5) : cg_do M f P 14 = M 14 := by
  unfold cg_do
  rw [cg_sb_n (by decide), cg_cy_n (by omega)]
theorem cg_do_id {M : cg_M} {f : Nat} : cg_cy M 0 (f + 1) = cg_do M f (M 0) := by
  unfold cg_do
  have e : M 0 = cg_cy M 0 (f + 1) 0 := (cg_cy_n (by omega)).symm
  rw [e, cg_sb_id]
theorem cg_min4 : ∀ z, z < 5 → (if nI 4 < nI (z + 1) then nI 4 else nI (z + 1)) = nI (min (z + 1) 4) := by decide +kernel
theorem cg_rem5 {a : Nat} (h : a < 100) : nI a - nI a / nI 5 * nI 5 = nI (a % 5) := pk_rem (by omega) (by decide) (by decide)
set_option maxRecDepth 100000 in
set_option maxHeartbeats 4000000 in
theorem sp_prepare {M : cg_M} {f : Nat} (hf5 : f < 5) (hf : M 14 1 = nI f) : cg_D yX0_prepare wsX0_prepare rmX0_prepare [.inr (.inr (2, 0, 0, 0)), .inr (.inr (0, 0, 0, 0))] M (none) (cg_cy M 0 (f + 1)) := by
  refine cg_S_of (cc := cX0_prepare) (maxL := 2) (ret := none) (ls0 := [some (.inr (.inr (2, 0, 0, 0))), some (.inr (.inr (0, 0, 0, 0)))]) RX0 rfl (by decide) rfl rfl (Nat.le_of_ble_eq_true rfl) (fun E C X => ?_)
  refine cr_aload_n (pc := 0) C dX0_prepare_0 rfl ?_
  refine cr_getr (pc := 1) (c := 0) (k := 0) C (by first | rfl | assumption | (simp [cg_ok]; omega)) rfl (by decide) rfl inX0_prepare_X0 flX0_prepare_13 dX0_prepare_1 ?_
  refine cr_aload_n (pc := 4) C dX0_prepare_4 rfl ?_
  refine cr_geti (pc := 5) (c := 0) (k := 1) C (by first | rfl | assumption | (simp [cg_ok]; omega)) rfl (by decide) rfl rfl inX0_prepare_X0 flX0_prepare_17 dX0_prepare_5 ?_
  rw [hf]
  refine cr_aaload (pc := 8) C rfl (by first | rfl | assumption | (simp [cg_ok]; omega)) (by omega) (by first | decide | omega) dX0_prepare_8 ?_
  refine cr_aload_n (pc := 9) C dX0_prepare_9 rfl ?_
  refine cr_dV (pc := 10) C (sp_copyFrom (by decide) (by omega) (by omega)) rfl gX0_prepare_X2_copyFrom rfl dX0_prepare_10 (by first | rfl | assumption | (simp [cg_ok]; omega)) rfl hvX2_copyFrom rfl ⟨rfl, rfl, Nat.le_of_ble_eq_true rfl, Nat.le_of_ble_eq_true rfl⟩ (Nat.le_of_ble_eq_true rfl) rfl ?_
  refine cr_return (pc := 13) C X dX0_prepare_13 ?_
  exact ⟨rfl, rfl⟩
set_option maxRecDepth 100000 in
set_option maxHeartbeats 4000000 in
theorem sp_restoreP {M : cg_M} {f : Nat} (hf5 : f < 5) (hf : M 14 1 = nI f) : cg_D yX0_restorePrepared wsX0_restorePrepared rmX0_restorePrepared [.inr (.inr (2, 0, 0, 0)), .inr (.inr (0, 0, 0, 0))] M (none) (cg_cy M (f + 1) 0) := by
  refine cg_S_of (cc := cX0_restorePrepared) (maxL := 2) (ret := none) (ls0 := [some (.inr (.inr (2, 0, 0, 0))), some (.inr (.inr (0, 0, 0, 0)))]) RX0 rfl (by decide) rfl rfl (Nat.le_of_ble_eq_true rfl) (fun E C X => ?_)
  refine cr_aload_n (pc := 0) C dX0_restorePrepared_0 rfl ?_
  refine cr_aload_n (pc := 1) C dX0_restorePrepared_1 rfl ?_
  refine cr_getr (pc := 2) (c := 0) (k := 0) C (by first | rfl | assumption | (simp [cg_ok]; omega)) rfl (by decide) rfl inX0_restorePrepared_X0 flX0_restorePrepared_13 dX0_restorePrepared_2 ?_
  refine cr_aload_n (pc := 5) C dX0_restorePrepared_5 rfl ?_
  refine cr_geti (pc := 6) (c := 0) (k := 1) C (by first | rfl | assumption | (simp [cg_ok]; omega)) rfl (by decide) rfl rfl inX0_restorePrepared_X0 flX0_restorePrepared_17 dX0_restorePrepared_6 ?_
  rw [hf]
  refine cr_aaload (pc := 9) C rfl (by first | rfl | assumption | (simp [cg_ok]; omega)) (by omega) (by first | decide | omega) dX0_restorePrepared_9 ?_
  refine cr_dV (pc := 10) C (sp_copyFrom (by omega) (by decide) (by omega)) rfl gX0_restorePrepared_X2_copyFrom rfl dX0_restorePrepared_10 (by first | rfl | assumption | (simp [cg_ok]; omega)) rfl hvX2_copyFrom rfl ⟨rfl, rfl, Nat.le_of_ble_eq_true rfl, Nat.le_of_ble_eq_true rfl⟩ (Nat.le_of_ble_eq_true rfl) rfl ?_
  refine cr_return (pc := 13) C X dX0_restorePrepared_13 ?_
  exact ⟨rfl, rfl⟩
set_option maxRecDepth 100000 in
set_option maxHeartbeats 4000000 in
theorem sp_keep {M : cg_M} {f z : Nat} (hf5 : f < 5) (hf : M 14 1 = nI f) (hz5 : z < 5) (hz : M 14 2 = nI z) : cg_D yX0_keepPrepared wsX0_keepPrepared rmX0_keepPrepared [.inr (.inr (2, 0, 0, 0))] M (none) (cg_keep M f z) := by
  refine cg_S_of (cc := cX0_keepPrepared) (maxL := 1) (ret := none) (ls0 := [some (.inr (.inr (2, 0, 0, 0)))]) RX0 rfl (by decide) rfl rfl (Nat.le_of_ble_eq_true rfl) (fun E C X => ?_)
  refine cr_aload_n (pc := 0) C dX0_keepPrepared_0 rfl ?_
  refine cr_aload_n (pc := 1) C dX0_keepPrepared_1 rfl ?_
  refine cr_geti (pc := 2) (c := 0) (k := 1) C (by first | rfl | assumption | (simp [cg_ok]; omega)) rfl (by decide) rfl rfl inX0_keepPrepared_X0 flX0_keepPrepared_17 dX0_keepPrepared_2 ?_
  rw [hf]
  refine cr_iconst (pc := 5) (v := nI 1) C dX0_keepPrepared_5 (by decide) ?_
  refine cr_iadd_n (pc := 6) C dX0_keepPrepared_6 ?_
  refine cr_iconst (pc := 7) (v := nI 5) C dX0_keepPrepared_7 (by decide) ?_
  refine cr_irem (pc := 8) C dX0_keepPrepared_8 (by decide) ?_
  rw [cg_rem5 (by omega)]
  refine cr_puti (pc := 9) (c := 0) (k := 1) C (by first | rfl | assumption | (simp [cg_ok]; omega)) rfl (by decide) rfl rfl inX0_keepPrepared_X0 flX0_keepPrepared_17 rfl (by first | rfl | decide) rfl dX0_keepPrepared_9 ?_
  refine cr_aload_n (pc := 12) C dX0_keepPrepared_12 rfl ?_
  refine cr_aload_n (pc := 13) C dX0_keepPrepared_13 rfl ?_
  refine cr_geti (pc := 14) (c := 0) (k := 2) C (by first | rfl | assumption | (simp [cg_ok]; omega)) rfl (by decide) rfl rfl inX0_keepPrepared_X0 flX0_keepPrepared_21 dX0_keepPrepared_14 ?_
  rw [cg_up_o (by decide), hz]
  refine cr_iconst (pc := 17) (v := nI 1) C dX0_keepPrepared_17 (by decide) ?_
  refine cr_iadd_n (pc := 18) C dX0_keepPrepared_18 ?_
  refine cr_iconst (pc := 19) (v := nI 4) C dX0_keepPrepared_19 (by decide) ?_
  refine cr_min (pc := 20) C dX0_keepPrepared_20 mmX0_keepPrepared_min ⟨Nat.le_of_ble_eq_true rfl, Nat.le_of_ble_eq_true rfl⟩ (Nat.le_of_ble_eq_true rfl) ?_
  rw [cg_min4 z hz5]
  refine cr_puti (pc := 23) (c := 0) (k := 2) C (by first | rfl | assumption | (simp [cg_ok]; omega)) rfl (by decide) rfl rfl inX0_keepPrepared_X0 flX0_keepPrepared_21 rfl (by first | rfl | decide) rfl dX0_keepPrepared_23 ?_
  refine cr_return (pc := 26) C X dX0_keepPrepared_26 ?_
  exact ⟨rfl, rfl⟩
set_option maxRecDepth 100000 in
set_option maxHeartbeats 4000000 in
theorem sp_newest0 {M : cg_M} (hz : M 14 2 = nI 0) : cg_D yX0_restoreNewest wsX0_restoreNewest rmX0_restoreNewest [.inr (.inr (2, 0, 0, 0)), .inr (.inr (0, 0, 0, 0))] M (some (.inl (nI 0))) (M) := by
  refine cg_S_of (cc := cX0_restoreNewest) (maxL := 2) (ret := (some .boolean)) (ls0 := [some (.inr (.inr (2, 0, 0, 0))), some (.inr (.inr (0, 0, 0, 0)))]) RX0 rfl (by decide) rfl rfl (Nat.le_of_ble_eq_true rfl) (fun E C X => ?_)
  refine cr_aload_n (pc := 0) C dX0_restoreNewest_0 rfl ?_
  refine cr_geti (pc := 1) (c := 0) (k := 2) C (by first | rfl | assumption | (simp [cg_ok]; omega)) rfl (by decide) rfl rfl inX0_restoreNewest_X0 flX0_restoreNewest_21 dX0_restoreNewest_1 ?_
  rw [hz]
  refine cr_if_ne_f (pc := 4) (tgt := 9) C dX0_restoreNewest_4 (by decide) (by decide) ?_
  refine cr_iconst (pc := 7) (v := nI 0) C dX0_restoreNewest_7 (by decide) ?_
  refine cr_zreturn (pc := 8) C X dX0_restoreNewest_8 (by first | exact Or.inr rfl | exact Or.inl rfl | assumption) ?_
  exact ⟨rfl, rfl⟩
def cg_und (M : cg_M) (f y : Nat) : cg_M := cg_cy (cg_up (cg_up M 14 1 (nI ((f + 4) % 5))) 14 2 (nI y)) ((f + 4) % 5 + 1) 0
set_option maxRecDepth 100000 in
set_option maxHeartbeats 4000000 in
theorem sp_newest1 {M : cg_M} {f y : Nat} (hf5 : f < 5) (hf : M 14 1 = nI f) (hy : y < 4) (hz : M 14 2 = nI (y + 1)) : cg_D yX0_restoreNewest wsX0_restoreNewest rmX0_restoreNewest [.inr (.inr (2, 0, 0, 0)), .inr (.inr (0, 0, 0, 0))] M (some (.inl (nI 1))) (cg_und M f y) := by
  refine cg_S_of (cc := cX0_restoreNewest) (maxL := 2) (ret := (some .boolean)) (ls0 := [some (.inr (.inr (2, 0, 0, 0))), some (.inr (.inr (0, 0, 0, 0)))]) RX0 rfl (by decide) rfl rfl (Nat.le_of_ble_eq_true rfl) (fun E C X => ?_)
  refine cr_aload_n (pc := 0) C dX0_restoreNewest_0 rfl ?_
  refine cr_geti (pc := 1) (c := 0) (k := 2) C (by first | rfl | assumption | (simp [cg_ok]; omega)) rfl (by decide) rfl rfl inX0_restoreNewest_X0 flX0_restoreNewest_21 dX0_restoreNewest_1 ?_
  rw [hz]
  refine cr_if_ne_t (pc := 4) (tgt := 9) C dX0_restoreNewest_4 (by decide) (nI_ne0 (by omega) (by omega)) ?_
  refine cr_aload_n (pc := 9) C dX0_restoreNewest_9 rfl ?_
  refine cr_aload_n (pc := 10) C dX0_restoreNewest_10 rfl ?_
  refine cr_geti (pc := 11) (c := 0) (k := 1) C (by first | rfl | assumption | (simp [cg_ok]; omega)) rfl (by decide) rfl rfl inX0_restoreNewest_X0 flX0_restoreNewest_17 dX0_restoreNewest_11 ?_
  rw [hf]
  refine cr_iconst (pc := 14) (v := nI 5) C dX0_restoreNewest_14 (by decide) ?_
  refine cr_iadd_n (pc := 15) C dX0_restoreNewest_15 ?_
  refine cr_iconst (pc := 16) (v := nI 1) C dX0_restoreNewest_16 (by decide) ?_
  refine cr_isub (pc := 17) C dX0_restoreNewest_17 ?_
  rw [pk_sub (by omega)]
  refine cr_iconst (pc := 18) (v := nI 5) C dX0_restoreNewest_18 (by decide) ?_
  refine cr_irem (pc := 19) C dX0_restoreNewest_19 (by decide) ?_
  rw [cg_rem5 (by omega)]
  refine cr_puti (pc := 20) (c := 0) (k := 1) C (by first | rfl | assumption | (simp [cg_ok]; omega)) rfl (by decide) rfl rfl inX0_restoreNewest_X0 flX0_restoreNewest_17 rfl (by first | rfl | decide) rfl dX0_restoreNewest_20 ?_
  refine cr_aload_n (pc := 23) C dX0_restoreNewest_23 rfl ?_
  refine cr_dup (pc := 24) C dX0_restoreNewest_24 rfl ?_
  refine cr_geti (pc := 25) (c := 0) (k := 2) C (by first | rfl | assumption | (simp [cg_ok]; omega)) rfl (by decide) rfl rfl inX0_restoreNewest_X0 flX0_restoreNewest_21 dX0_restoreNewest_25 ?_
  rw [cg_up_o (by decide), hz]
  refine cr_iconst (pc := 28) (v := nI 1) C dX0_restoreNewest_28 (by decide) ?_
  refine cr_isub (pc := 29) C dX0_restoreNewest_29 ?_
  rw [pk_sub (by omega)]
  refine cr_puti (pc := 30) (c := 0) (k := 2) C (by first | rfl | assumption | (simp [cg_ok]; omega)) rfl (by decide) rfl rfl inX0_restoreNewest_X0 flX0_restoreNewest_21 rfl (by first | rfl | decide) rfl dX0_restoreNewest_30 ?_
  refine cr_aload_n (pc := 33) C dX0_restoreNewest_33 rfl ?_
  refine cr_aload_n (pc := 34) C dX0_restoreNewest_34 rfl ?_
  refine cr_getr (pc := 35) (c := 0) (k := 0) C (by first | rfl | assumption | (simp [cg_ok]; omega)) rfl (by decide) rfl inX0_restoreNewest_X0 flX0_restoreNewest_13 dX0_restoreNewest_35 ?_
  refine cr_aload_n (pc := 38) C dX0_restoreNewest_38 rfl ?_
  refine cr_geti (pc := 39) (c := 0) (k := 1) C (by first | rfl | assumption | (simp [cg_ok]; omega)) rfl (by decide) rfl rfl inX0_restoreNewest_X0 flX0_restoreNewest_17 dX0_restoreNewest_39 ?_
  rw [cg_up_o (by decide), cg_up_s]
  refine cr_aaload (pc := 42) C rfl (by first | rfl | assumption | (simp [cg_ok]; omega)) (by omega) (by first | decide | omega) dX0_restoreNewest_42 ?_
  refine cr_dV (pc := 43) C (sp_copyFrom (by omega) (by decide) (by omega)) rfl gX0_restoreNewest_X2_copyFrom rfl dX0_restoreNewest_43 (by first | rfl | assumption | (simp [cg_ok]; omega)) rfl hvX2_copyFrom rfl ⟨rfl, rfl, Nat.le_of_ble_eq_true rfl, Nat.le_of_ble_eq_true rfl⟩ (Nat.le_of_ble_eq_true rfl) rfl ?_
  refine cr_iconst (pc := 46) (v := nI 1) C dX0_restoreNewest_46 (by decide) ?_
  refine cr_zreturn (pc := 47) C X dX0_restoreNewest_47 (by first | exact Or.inr rfl | exact Or.inl rfl | assumption) ?_
  exact ⟨rfl, rfl⟩
set_option maxRecDepth 100000 in
set_option maxHeartbeats 4000000 in
theorem sp_end1 {M : cg_M} {f z : Nat} {x : Int32} (hf5 : f < 5) (hf : M 14 1 = nI f) (hz5 : z < 5) (hz : M 14 2 = nI z) (hx : ¬ x < 0) : cg_D yX3_endUndoable wsX3_endUndoable rmX3_endUndoable [.inr (.inr (3, 0, 0, 0)), .inl (x)] M (some (.inl x)) (cg_keep M f z) := by
  refine cg_S_of (cc := cX3_endUndoable) (maxL := 2) (ret := (some .int)) (ls0 := [some (.inr (.inr (3, 0, 0, 0))), some (.inl (x))]) RX3 rfl (by decide) rfl rfl (Nat.le_of_ble_eq_true rfl) (fun E C X => ?_)
  refine cr_iload_n (pc := 0) C dX3_endUndoable_0 rfl ?_
  refine cr_if_lt_f (pc := 1) (tgt := 11) C dX3_endUndoable_1 (by decide) hx ?_
  refine cr_aload_n (pc := 4) C dX3_endUndoable_4 rfl ?_
  refine cr_getr (pc := 5) (c := 3) (k := 1) C (by first | rfl | assumption | (simp [cg_ok]; omega)) rfl (by decide) rfl inX3_endUndoable_X3 flX3_endUndoable_19 dX3_endUndoable_5 ?_
  refine cr_dV (pc := 8) C (sp_keep hf5 hf hz5 hz) rfl gX3_endUndoable_X0_keepPrepared rfl dX3_endUndoable_8 (by first | rfl | assumption | (simp [cg_ok]; omega)) rfl hvX0_keepPrepared rfl ⟨rfl, rfl, Nat.le_of_ble_eq_true rfl, Nat.le_of_ble_eq_true rfl⟩ (Nat.le_of_ble_eq_true rfl) rfl ?_
  refine cr_aload_n (pc := 11) C dX3_endUndoable_11 rfl ?_
  refine cr_iload_n (pc := 12) C dX3_endUndoable_12 rfl ?_
  refine cr_dV (pc := 13) C (sp_counted0 (fun q => hx (Int32.lt_of_le_of_lt q.2 (by decide)))) rfl gX3_endUndoable_X3_counted rfl dX3_endUndoable_13 (by first | rfl | assumption | (simp [cg_ok]; omega)) rfl hvX3_counted rfl ⟨rfl, rfl, Nat.le_of_ble_eq_true rfl, Nat.le_of_ble_eq_true rfl⟩ (Nat.le_of_ble_eq_true rfl) rfl ?_
  refine cr_ireturn (pc := 16) C X dX3_endUndoable_16 ?_
  exact ⟨rfl, rfl⟩
set_option maxRecDepth 100000 in
set_option maxHeartbeats 4000000 in
theorem sp_end0 {M : cg_M} {x : Int32} {e : Nat} (he : e < 5) (h1 : (-6) ≤ x) (h2 : x ≤ (-2)) (hx : (-2) - x = nI e) : cg_D yX3_endUndoable wsX3_endUndoable rmX3_endUndoable [.inr (.inr (3, 0, 0, 0)), .inl (x)] M (some (.inl x)) (cg_err M e) := by
  refine cg_S_of (cc := cX3_endUndoable) (maxL := 2) (ret := (some .int)) (ls0 := [some (.inr (.inr (3, 0, 0, 0))), some (.inl (x))]) RX3 rfl (by decide) rfl rfl (Nat.le_of_ble_eq_true rfl) (fun E C X => ?_)
  refine cr_iload_n (pc := 0) C dX3_endUndoable_0 rfl ?_
  refine cr_if_lt_t (pc := 1) (tgt := 11) C dX3_endUndoable_1 (by decide) (Int32.lt_of_le_of_lt h2 (by decide)) ?_
  refine cr_aload_n (pc := 11) C dX3_endUndoable_11 rfl ?_
  refine cr_iload_n (pc := 12) C dX3_endUndoable_12 rfl ?_
  refine cr_dV (pc := 13) C (sp_counted1 he h1 h2 hx) rfl gX3_endUndoable_X3_counted rfl dX3_endUndoable_13 (by first | rfl | assumption | (simp [cg_ok]; omega)) rfl hvX3_counted rfl ⟨rfl, rfl, Nat.le_of_ble_eq_true rfl, Nat.le_of_ble_eq_true rfl⟩ (Nat.le_of_ble_eq_true rfl) rfl ?_
  refine cr_ireturn (pc := 16) C X dX3_endUndoable_16 ?_
  exact ⟨rfl, rfl⟩
set_option maxRecDepth 100000 in
set_option maxHeartbeats 4000000 in
theorem sp_setGuarantees_ok {M : cg_M} {x y : Int32} {f z : Nat} {w : Int32} {P : Nat → Int32} (hf5 : f < 5) (hf : M 14 1 = nI f) (hz5 : z < 5) (hz : M 14 2 = nI z) (H : cg_D yX2_changeGuarantees wsX2_changeGuarantees rmX2_changeGuarantees (.inr (.inr (0, 0, 0, 0)) :: [.inl (x), .inl (y)]) (cg_do M f (M 0)) (some (.inl w)) (cg_do M f P)) (hw : ¬ w < 0) : cg_D yX3_setGuarantees wsX3_setGuarantees rmX3_setGuarantees [.inr (.inr (3, 0, 0, 0)), .inl (x), .inl (y)] M (some (.inl w)) (cg_keep (cg_do M f P) f z) := by
  refine cg_S_of (cc := cX3_setGuarantees) (maxL := 3) (ret := (some .int)) (ls0 := [some (.inr (.inr (3, 0, 0, 0))), some (.inl (x)), some (.inl (y))]) RX3 rfl (by decide) rfl rfl (Nat.le_of_ble_eq_true rfl) (fun E C X => ?_)
  refine cr_aload_n (pc := 0) C dX3_setGuarantees_0 rfl ?_
  refine cr_getr (pc := 1) (c := 3) (k := 1) C (by first | rfl | assumption | (simp [cg_ok]; omega)) rfl (by decide) rfl inX3_setGuarantees_X3 flX3_setGuarantees_19 dX3_setGuarantees_1 ?_
  refine cr_aload_n (pc := 4) C dX3_setGuarantees_4 rfl ?_
  refine cr_getr (pc := 5) (c := 3) (k := 0) C (by first | rfl | assumption | (simp [cg_ok]; omega)) rfl (by decide) rfl inX3_setGuarantees_X3 flX3_setGuarantees_12 dX3_setGuarantees_5 ?_
  refine cr_dV (pc := 8) C (sp_prepare hf5 hf) rfl gX3_setGuarantees_X0_prepare rfl dX3_setGuarantees_8 (by first | rfl | assumption | (simp [cg_ok]; omega)) rfl hvX0_prepare rfl ⟨rfl, rfl, Nat.le_of_ble_eq_true rfl, Nat.le_of_ble_eq_true rfl⟩ (Nat.le_of_ble_eq_true rfl) rfl ?_
  rw [cg_do_id]
  refine cr_aload_n (pc := 11) C dX3_setGuarantees_11 rfl ?_
  refine cr_aload_n (pc := 12) C dX3_setGuarantees_12 rfl ?_
  refine cr_getr (pc := 13) (c := 3) (k := 0) C (by first | rfl | assumption | (simp [cg_ok]; omega)) rfl (by decide) rfl inX3_setGuarantees_X3 flX3_setGuarantees_12 dX3_setGuarantees_13 ?_
  refine cr_iload_n (pc := 16) C dX3_setGuarantees_16 rfl ?_
  refine cr_iload_n (pc := 17) C dX3_setGuarantees_17 rfl ?_
  refine cr_dV (pc := 18) C (H) rfl gX3_setGuarantees_X2_changeGuarantees rfl dX3_setGuarantees_18 (by first | rfl | assumption | (simp [cg_ok]; omega)) rfl hvX2_changeGuarantees rfl ⟨rfl, rfl, Nat.le_of_ble_eq_true rfl, Nat.le_of_ble_eq_true rfl⟩ (Nat.le_of_ble_eq_true rfl) rfl ?_
  refine cr_dV (pc := 21) C (sp_end1 hf5 (by rw [cg_do_14 hf5]; exact hf) hz5 (by rw [cg_do_14 hf5]; exact hz) hw) rfl gX3_setGuarantees_X3_endUndoable rfl dX3_setGuarantees_21 (by first | rfl | assumption | (simp [cg_ok]; omega)) rfl hvX3_endUndoable rfl ⟨rfl, rfl, Nat.le_of_ble_eq_true rfl, Nat.le_of_ble_eq_true rfl⟩ (Nat.le_of_ble_eq_true rfl) rfl ?_
  refine cr_ireturn (pc := 24) C X dX3_setGuarantees_24 ?_
  exact ⟨rfl, rfl⟩
set_option maxRecDepth 100000 in
set_option maxHeartbeats 4000000 in
theorem sp_setGuarantees_er {M : cg_M} {x y : Int32} {f e : Nat} {w : Int32} (hf5 : f < 5) (hf : M 14 1 = nI f) (H : cg_D yX2_changeGuarantees wsX2_changeGuarantees rmX2_changeGuarantees (.inr (.inr (0, 0, 0, 0)) :: [.inl (x), .inl (y)]) (cg_do M f (M 0)) (some (.inl w)) (cg_do M f (M 0))) (he : e < 5) (h1 : (-6) ≤ w) (h2 : w ≤ (-2)) (hw : (-2) - w = nI e) : cg_D yX3_setGuarantees wsX3_setGuarantees rmX3_setGuarantees [.inr (.inr (3, 0, 0, 0)), .inl (x), .inl (y)] M (some (.inl w)) (cg_err (cg_do M f (M 0)) e) := by
  refine cg_S_of (cc := cX3_setGuarantees) (maxL := 3) (ret := (some .int)) (ls0 := [some (.inr (.inr (3, 0, 0, 0))), some (.inl (x)), some (.inl (y))]) RX3 rfl (by decide) rfl rfl (Nat.le_of_ble_eq_true rfl) (fun E C X => ?_)
  refine cr_aload_n (pc := 0) C dX3_setGuarantees_0 rfl ?_
  refine cr_getr (pc := 1) (c := 3) (k := 1) C (by first | rfl | assumption | (simp [cg_ok]; omega)) rfl (by decide) rfl inX3_setGuarantees_X3 flX3_setGuarantees_19 dX3_setGuarantees_1 ?_
  refine cr_aload_n (pc := 4) C dX3_setGuarantees_4 rfl ?_
  refine cr_getr (pc := 5) (c := 3) (k := 0) C (by first | rfl | assumption | (simp [cg_ok]; omega)) rfl (by decide) rfl inX3_setGuarantees_X3 flX3_setGuarantees_12 dX3_setGuarantees_5 ?_
  refine cr_dV (pc := 8) C (sp_prepare hf5 hf) rfl gX3_setGuarantees_X0_prepare rfl dX3_setGuarantees_8 (by first | rfl | assumption | (simp [cg_ok]; omega)) rfl hvX0_prepare rfl ⟨rfl, rfl, Nat.le_of_ble_eq_true rfl, Nat.le_of_ble_eq_true rfl⟩ (Nat.le_of_ble_eq_true rfl) rfl ?_
  rw [cg_do_id]
  refine cr_aload_n (pc := 11) C dX3_setGuarantees_11 rfl ?_
  refine cr_aload_n (pc := 12) C dX3_setGuarantees_12 rfl ?_
  refine cr_getr (pc := 13) (c := 3) (k := 0) C (by first | rfl | assumption | (simp [cg_ok]; omega)) rfl (by decide) rfl inX3_setGuarantees_X3 flX3_setGuarantees_12 dX3_setGuarantees_13 ?_
  refine cr_iload_n (pc := 16) C dX3_setGuarantees_16 rfl ?_
  refine cr_iload_n (pc := 17) C dX3_setGuarantees_17 rfl ?_
  refine cr_dV (pc := 18) C (H) rfl gX3_setGuarantees_X2_changeGuarantees rfl dX3_setGuarantees_18 (by first | rfl | assumption | (simp [cg_ok]; omega)) rfl hvX2_changeGuarantees rfl ⟨rfl, rfl, Nat.le_of_ble_eq_true rfl, Nat.le_of_ble_eq_true rfl⟩ (Nat.le_of_ble_eq_true rfl) rfl ?_
  refine cr_dV (pc := 21) C (sp_end0 he h1 h2 hw) rfl gX3_setGuarantees_X3_endUndoable rfl dX3_setGuarantees_21 (by first | rfl | assumption | (simp [cg_ok]; omega)) rfl hvX3_endUndoable rfl ⟨rfl, rfl, Nat.le_of_ble_eq_true rfl, Nat.le_of_ble_eq_true rfl⟩ (Nat.le_of_ble_eq_true rfl) rfl ?_
  refine cr_ireturn (pc := 24) C X dX3_setGuarantees_24 ?_
  exact ⟨rfl, rfl⟩
set_option maxRecDepth 100000 in
set_option maxHeartbeats 4000000 in
theorem sp_forget_ok {M : cg_M} {x : Int32} {f z : Nat} {w : Int32} {P : Nat → Int32} (hf5 : f < 5) (hf : M 14 1 = nI f) (hz5 : z < 5) (hz : M 14 2 = nI z) (H : cg_D yX2_clearVectors wsX2_clearVectors rmX2_clearVectors (.inr (.inr (0, 0, 0, 0)) :: [.inl (x)]) (cg_do M f (M 0)) (some (.inl w)) (cg_do M f P)) (hw : ¬ w < 0) : cg_D yX3_forget wsX3_forget rmX3_forget [.inr (.inr (3, 0, 0, 0)), .inl (x)] M (some (.inl w)) (cg_keep (cg_do M f P) f z) := by
  refine cg_S_of (cc := cX3_forget) (maxL := 2) (ret := (some .int)) (ls0 := [some (.inr (.inr (3, 0, 0, 0))), some (.inl (x))]) RX3 rfl (by decide) rfl rfl (Nat.le_of_ble_eq_true rfl) (fun E C X => ?_)
  refine cr_aload_n (pc := 0) C dX3_forget_0 rfl ?_
  refine cr_getr (pc := 1) (c := 3) (k := 1) C (by first | rfl | assumption | (simp [cg_ok]; omega)) rfl (by decide) rfl inX3_forget_X3 flX3_forget_19 dX3_forget_1 ?_
  refine cr_aload_n (pc := 4) C dX3_forget_4 rfl ?_
  refine cr_getr (pc := 5) (c := 3) (k := 0) C (by first | rfl | assumption | (simp [cg_ok]; omega)) rfl (by decide) rfl inX3_forget_X3 flX3_forget_12 dX3_forget_5 ?_
  refine cr_dV (pc := 8) C (sp_prepare hf5 hf) rfl gX3_forget_X0_prepare rfl dX3_forget_8 (by first | rfl | assumption | (simp [cg_ok]; omega)) rfl hvX0_prepare rfl ⟨rfl, rfl, Nat.le_of_ble_eq_true rfl, Nat.le_of_ble_eq_true rfl⟩ (Nat.le_of_ble_eq_true rfl) rfl ?_
  rw [cg_do_id]
  refine cr_aload_n (pc := 11) C dX3_forget_11 rfl ?_
  refine cr_aload_n (pc := 12) C dX3_forget_12 rfl ?_
  refine cr_getr (pc := 13) (c := 3) (k := 0) C (by first | rfl | assumption | (simp [cg_ok]; omega)) rfl (by decide) rfl inX3_forget_X3 flX3_forget_12 dX3_forget_13 ?_
  refine cr_iload_n (pc := 16) C dX3_forget_16 rfl ?_
  refine cr_dV (pc := 17) C (H) rfl gX3_forget_X2_clearVectors rfl dX3_forget_17 (by first | rfl | assumption | (simp [cg_ok]; omega)) rfl hvX2_clearVectors rfl ⟨rfl, rfl, Nat.le_of_ble_eq_true rfl, Nat.le_of_ble_eq_true rfl⟩ (Nat.le_of_ble_eq_true rfl) rfl ?_
  refine cr_dV (pc := 20) C (sp_end1 hf5 (by rw [cg_do_14 hf5]; exact hf) hz5 (by rw [cg_do_14 hf5]; exact hz) hw) rfl gX3_forget_X3_endUndoable rfl dX3_forget_20 (by first | rfl | assumption | (simp [cg_ok]; omega)) rfl hvX3_endUndoable rfl ⟨rfl, rfl, Nat.le_of_ble_eq_true rfl, Nat.le_of_ble_eq_true rfl⟩ (Nat.le_of_ble_eq_true rfl) rfl ?_
  refine cr_ireturn (pc := 23) C X dX3_forget_23 ?_
  exact ⟨rfl, rfl⟩
set_option maxRecDepth 100000 in
set_option maxHeartbeats 4000000 in
theorem sp_forget_er {M : cg_M} {x : Int32} {f e : Nat} {w : Int32} (hf5 : f < 5) (hf : M 14 1 = nI f) (H : cg_D yX2_clearVectors wsX2_clearVectors rmX2_clearVectors (.inr (.inr (0, 0, 0, 0)) :: [.inl (x)]) (cg_do M f (M 0)) (some (.inl w)) (cg_do M f (M 0))) (he : e < 5) (h1 : (-6) ≤ w) (h2 : w ≤ (-2)) (hw : (-2) - w = nI e) : cg_D yX3_forget wsX3_forget rmX3_forget [.inr (.inr (3, 0, 0, 0)), .inl (x)] M (some (.inl w)) (cg_err (cg_do M f (M 0)) e) := by
  refine cg_S_of (cc := cX3_forget) (maxL := 2) (ret := (some .int)) (ls0 := [some (.inr (.inr (3, 0, 0, 0))), some (.inl (x))]) RX3 rfl (by decide) rfl rfl (Nat.le_of_ble_eq_true rfl) (fun E C X => ?_)
  refine cr_aload_n (pc := 0) C dX3_forget_0 rfl ?_
  refine cr_getr (pc := 1) (c := 3) (k := 1) C (by first | rfl | assumption | (simp [cg_ok]; omega)) rfl (by decide) rfl inX3_forget_X3 flX3_forget_19 dX3_forget_1 ?_
  refine cr_aload_n (pc := 4) C dX3_forget_4 rfl ?_
  refine cr_getr (pc := 5) (c := 3) (k := 0) C (by first | rfl | assumption | (simp [cg_ok]; omega)) rfl (by decide) rfl inX3_forget_X3 flX3_forget_12 dX3_forget_5 ?_
  refine cr_dV (pc := 8) C (sp_prepare hf5 hf) rfl gX3_forget_X0_prepare rfl dX3_forget_8 (by first | rfl | assumption | (simp [cg_ok]; omega)) rfl hvX0_prepare rfl ⟨rfl, rfl, Nat.le_of_ble_eq_true rfl, Nat.le_of_ble_eq_true rfl⟩ (Nat.le_of_ble_eq_true rfl) rfl ?_
  rw [cg_do_id]
  refine cr_aload_n (pc := 11) C dX3_forget_11 rfl ?_
  refine cr_aload_n (pc := 12) C dX3_forget_12 rfl ?_
  refine cr_getr (pc := 13) (c := 3) (k := 0) C (by first | rfl | assumption | (simp [cg_ok]; omega)) rfl (by decide) rfl inX3_forget_X3 flX3_forget_12 dX3_forget_13 ?_
  refine cr_iload_n (pc := 16) C dX3_forget_16 rfl ?_
  refine cr_dV (pc := 17) C (H) rfl gX3_forget_X2_clearVectors rfl dX3_forget_17 (by first | rfl | assumption | (simp [cg_ok]; omega)) rfl hvX2_clearVectors rfl ⟨rfl, rfl, Nat.le_of_ble_eq_true rfl, Nat.le_of_ble_eq_true rfl⟩ (Nat.le_of_ble_eq_true rfl) rfl ?_
  refine cr_dV (pc := 20) C (sp_end0 he h1 h2 hw) rfl gX3_forget_X3_endUndoable rfl dX3_forget_20 (by first | rfl | assumption | (simp [cg_ok]; omega)) rfl hvX3_endUndoable rfl ⟨rfl, rfl, Nat.le_of_ble_eq_true rfl, Nat.le_of_ble_eq_true rfl⟩ (Nat.le_of_ble_eq_true rfl) rfl ?_
  refine cr_ireturn (pc := 23) C X dX3_forget_23 ?_
  exact ⟨rfl, rfl⟩
set_option maxRecDepth 100000 in
set_option maxHeartbeats 4000000 in
theorem sp_read_ok {M : cg_M} {x y z1 : Int32} {f z : Nat} {w : Int32} {P : Nat → Int32} (hf5 : f < 5) (hf : M 14 1 = nI f) (hz5 : z < 5) (hz : M 14 2 = nI z) (H : cg_D yX2_readKey wsX2_readKey rmX2_readKey (.inr (.inr (0, 0, 0, 0)) :: [.inl (x), .inl (y), .inl (z1)]) (cg_do M f (M 0)) (some (.inl w)) (cg_do M f P)) (hw : ¬ w < 0) : cg_D yX3_read wsX3_read rmX3_read [.inr (.inr (3, 0, 0, 0)), .inl (x), .inl (y), .inl (z1)] M (some (.inl w)) (cg_keep (cg_do M f P) f z) := by
  refine cg_S_of (cc := cX3_read) (maxL := 4) (ret := (some .int)) (ls0 := [some (.inr (.inr (3, 0, 0, 0))), some (.inl (x)), some (.inl (y)), some (.inl (z1))]) RX3 rfl (by decide) rfl rfl (Nat.le_of_ble_eq_true rfl) (fun E C X => ?_)
  refine cr_aload_n (pc := 0) C dX3_read_0 rfl ?_
  refine cr_getr (pc := 1) (c := 3) (k := 1) C (by first | rfl | assumption | (simp [cg_ok]; omega)) rfl (by decide) rfl inX3_read_X3 flX3_read_19 dX3_read_1 ?_
  refine cr_aload_n (pc := 4) C dX3_read_4 rfl ?_
  refine cr_getr (pc := 5) (c := 3) (k := 0) C (by first | rfl | assumption | (simp [cg_ok]; omega)) rfl (by decide) rfl inX3_read_X3 flX3_read_12 dX3_read_5 ?_
  refine cr_dV (pc := 8) C (sp_prepare hf5 hf) rfl gX3_read_X0_prepare rfl dX3_read_8 (by first | rfl | assumption | (simp [cg_ok]; omega)) rfl hvX0_prepare rfl ⟨rfl, rfl, Nat.le_of_ble_eq_true rfl, Nat.le_of_ble_eq_true rfl⟩ (Nat.le_of_ble_eq_true rfl) rfl ?_
  rw [cg_do_id]
  refine cr_aload_n (pc := 11) C dX3_read_11 rfl ?_
  refine cr_aload_n (pc := 12) C dX3_read_12 rfl ?_
  refine cr_getr (pc := 13) (c := 3) (k := 0) C (by first | rfl | assumption | (simp [cg_ok]; omega)) rfl (by decide) rfl inX3_read_X3 flX3_read_12 dX3_read_13 ?_
  refine cr_iload_n (pc := 16) C dX3_read_16 rfl ?_
  refine cr_iload_n (pc := 17) C dX3_read_17 rfl ?_
  refine cr_iload_n (pc := 18) C dX3_read_18 rfl ?_
  refine cr_dV (pc := 19) C (H) rfl gX3_read_X2_readKey rfl dX3_read_19 (by first | rfl | assumption | (simp [cg_ok]; omega)) rfl hvX2_readKey rfl ⟨rfl, rfl, Nat.le_of_ble_eq_true rfl, Nat.le_of_ble_eq_true rfl⟩ (Nat.le_of_ble_eq_true rfl) rfl ?_
  refine cr_dV (pc := 22) C (sp_end1 hf5 (by rw [cg_do_14 hf5]; exact hf) hz5 (by rw [cg_do_14 hf5]; exact hz) hw) rfl gX3_read_X3_endUndoable rfl dX3_read_22 (by first | rfl | assumption | (simp [cg_ok]; omega)) rfl hvX3_endUndoable rfl ⟨rfl, rfl, Nat.le_of_ble_eq_true rfl, Nat.le_of_ble_eq_true rfl⟩ (Nat.le_of_ble_eq_true rfl) rfl ?_
  refine cr_ireturn (pc := 25) C X dX3_read_25 ?_
  exact ⟨rfl, rfl⟩
set_option maxRecDepth 100000 in
set_option maxHeartbeats 4000000 in
theorem sp_read_er {M : cg_M} {x y z1 : Int32} {f e : Nat} {w : Int32} (hf5 : f < 5) (hf : M 14 1 = nI f) (H : cg_D yX2_readKey wsX2_readKey rmX2_readKey (.inr (.inr (0, 0, 0, 0)) :: [.inl (x), .inl (y), .inl (z1)]) (cg_do M f (M 0)) (some (.inl w)) (cg_do M f (M 0))) (he : e < 5) (h1 : (-6) ≤ w) (h2 : w ≤ (-2)) (hw : (-2) - w = nI e) : cg_D yX3_read wsX3_read rmX3_read [.inr (.inr (3, 0, 0, 0)), .inl (x), .inl (y), .inl (z1)] M (some (.inl w)) (cg_err (cg_do M f (M 0)) e) := by
  refine cg_S_of (cc := cX3_read) (maxL := 4) (ret := (some .int)) (ls0 := [some (.inr (.inr (3, 0, 0, 0))), some (.inl (x)), some (.inl (y)), some (.inl (z1))]) RX3 rfl (by decide) rfl rfl (Nat.le_of_ble_eq_true rfl) (fun E C X => ?_)
  refine cr_aload_n (pc := 0) C dX3_read_0 rfl ?_
  refine cr_getr (pc := 1) (c := 3) (k := 1) C (by first | rfl | assumption | (simp [cg_ok]; omega)) rfl (by decide) rfl inX3_read_X3 flX3_read_19 dX3_read_1 ?_
  refine cr_aload_n (pc := 4) C dX3_read_4 rfl ?_
  refine cr_getr (pc := 5) (c := 3) (k := 0) C (by first | rfl | assumption | (simp [cg_ok]; omega)) rfl (by decide) rfl inX3_read_X3 flX3_read_12 dX3_read_5 ?_
  refine cr_dV (pc := 8) C (sp_prepare hf5 hf) rfl gX3_read_X0_prepare rfl dX3_read_8 (by first | rfl | assumption | (simp [cg_ok]; omega)) rfl hvX0_prepare rfl ⟨rfl, rfl, Nat.le_of_ble_eq_true rfl, Nat.le_of_ble_eq_true rfl⟩ (Nat.le_of_ble_eq_true rfl) rfl ?_
  rw [cg_do_id]
  refine cr_aload_n (pc := 11) C dX3_read_11 rfl ?_
  refine cr_aload_n (pc := 12) C dX3_read_12 rfl ?_
  refine cr_getr (pc := 13) (c := 3) (k := 0) C (by first | rfl | assumption | (simp [cg_ok]; omega)) rfl (by decide) rfl inX3_read_X3 flX3_read_12 dX3_read_13 ?_
  refine cr_iload_n (pc := 16) C dX3_read_16 rfl ?_
  refine cr_iload_n (pc := 17) C dX3_read_17 rfl ?_
  refine cr_iload_n (pc := 18) C dX3_read_18 rfl ?_
  refine cr_dV (pc := 19) C (H) rfl gX3_read_X2_readKey rfl dX3_read_19 (by first | rfl | assumption | (simp [cg_ok]; omega)) rfl hvX2_readKey rfl ⟨rfl, rfl, Nat.le_of_ble_eq_true rfl, Nat.le_of_ble_eq_true rfl⟩ (Nat.le_of_ble_eq_true rfl) rfl ?_
  refine cr_dV (pc := 22) C (sp_end0 he h1 h2 hw) rfl gX3_read_X3_endUndoable rfl dX3_read_22 (by first | rfl | assumption | (simp [cg_ok]; omega)) rfl hvX3_endUndoable rfl ⟨rfl, rfl, Nat.le_of_ble_eq_true rfl, Nat.le_of_ble_eq_true rfl⟩ (Nat.le_of_ble_eq_true rfl) rfl ?_
  refine cr_ireturn (pc := 25) C X dX3_read_25 ?_
  exact ⟨rfl, rfl⟩
set_option maxRecDepth 100000 in
set_option maxHeartbeats 4000000 in
theorem sp_write_ok {M : cg_M} {x y z1 t : Int32} {f z : Nat} {w : Int32} {P : Nat → Int32} (hf5 : f < 5) (hf : M 14 1 = nI f) (hz5 : z < 5) (hz : M 14 2 = nI z) (H : cg_D yX2_writeKey wsX2_writeKey rmX2_writeKey (.inr (.inr (0, 0, 0, 0)) :: [.inl (x), .inl (y), .inl (z1), .inl (t)]) (cg_do M f (M 0)) (some (.inl w)) (cg_do M f P)) (hw : ¬ w < 0) : cg_D yX3_write wsX3_write rmX3_write [.inr (.inr (3, 0, 0, 0)), .inl (x), .inl (y), .inl (z1), .inl (t)] M (some (.inl w)) (cg_keep (cg_do M f P) f z) := by
  refine cg_S_of (cc := cX3_write) (maxL := 5) (ret := (some .int)) (ls0 := [some (.inr (.inr (3, 0, 0, 0))), some (.inl (x)), some (.inl (y)), some (.inl (z1)), some (.inl (t))]) RX3 rfl (by decide) rfl rfl (Nat.le_of_ble_eq_true rfl) (fun E C X => ?_)
  refine cr_aload_n (pc := 0) C dX3_write_0 rfl ?_
  refine cr_getr (pc := 1) (c := 3) (k := 1) C (by first | rfl | assumption | (simp [cg_ok]; omega)) rfl (by decide) rfl inX3_write_X3 flX3_write_19 dX3_write_1 ?_
  refine cr_aload_n (pc := 4) C dX3_write_4 rfl ?_
  refine cr_getr (pc := 5) (c := 3) (k := 0) C (by first | rfl | assumption | (simp [cg_ok]; omega)) rfl (by decide) rfl inX3_write_X3 flX3_write_12 dX3_write_5 ?_
  refine cr_dV (pc := 8) C (sp_prepare hf5 hf) rfl gX3_write_X0_prepare rfl dX3_write_8 (by first | rfl | assumption | (simp [cg_ok]; omega)) rfl hvX0_prepare rfl ⟨rfl, rfl, Nat.le_of_ble_eq_true rfl, Nat.le_of_ble_eq_true rfl⟩ (Nat.le_of_ble_eq_true rfl) rfl ?_
  rw [cg_do_id]
  refine cr_aload_n (pc := 11) C dX3_write_11 rfl ?_
  refine cr_aload_n (pc := 12) C dX3_write_12 rfl ?_
  refine cr_getr (pc := 13) (c := 3) (k := 0) C (by first | rfl | assumption | (simp [cg_ok]; omega)) rfl (by decide) rfl inX3_write_X3 flX3_write_12 dX3_write_13 ?_
  refine cr_iload_n (pc := 16) C dX3_write_16 rfl ?_
  refine cr_iload_n (pc := 17) C dX3_write_17 rfl ?_
  refine cr_iload_n (pc := 18) C dX3_write_18 rfl ?_
  refine cr_iload (pc := 19) C dX3_write_19 rfl ?_
  refine cr_dV (pc := 21) C (H) rfl gX3_write_X2_writeKey rfl dX3_write_21 (by first | rfl | assumption | (simp [cg_ok]; omega)) rfl hvX2_writeKey rfl ⟨rfl, rfl, Nat.le_of_ble_eq_true rfl, Nat.le_of_ble_eq_true rfl⟩ (Nat.le_of_ble_eq_true rfl) rfl ?_
  refine cr_dV (pc := 24) C (sp_end1 hf5 (by rw [cg_do_14 hf5]; exact hf) hz5 (by rw [cg_do_14 hf5]; exact hz) hw) rfl gX3_write_X3_endUndoable rfl dX3_write_24 (by first | rfl | assumption | (simp [cg_ok]; omega)) rfl hvX3_endUndoable rfl ⟨rfl, rfl, Nat.le_of_ble_eq_true rfl, Nat.le_of_ble_eq_true rfl⟩ (Nat.le_of_ble_eq_true rfl) rfl ?_
  refine cr_ireturn (pc := 27) C X dX3_write_27 ?_
  exact ⟨rfl, rfl⟩
set_option maxRecDepth 100000 in
set_option maxHeartbeats 4000000 in
theorem sp_write_er {M : cg_M} {x y z1 t : Int32} {f e : Nat} {w : Int32} (hf5 : f < 5) (hf : M 14 1 = nI f) (H : cg_D yX2_writeKey wsX2_writeKey rmX2_writeKey (.inr (.inr (0, 0, 0, 0)) :: [.inl (x), .inl (y), .inl (z1), .inl (t)]) (cg_do M f (M 0)) (some (.inl w)) (cg_do M f (M 0))) (he : e < 5) (h1 : (-6) ≤ w) (h2 : w ≤ (-2)) (hw : (-2) - w = nI e) : cg_D yX3_write wsX3_write rmX3_write [.inr (.inr (3, 0, 0, 0)), .inl (x), .inl (y), .inl (z1), .inl (t)] M (some (.inl w)) (cg_err (cg_do M f (M 0)) e) := by
  refine cg_S_of (cc := cX3_write) (maxL := 5) (ret := (some .int)) (ls0 := [some (.inr (.inr (3, 0, 0, 0))), some (.inl (x)), some (.inl (y)), some (.inl (z1)), some (.inl (t))]) RX3 rfl (by decide) rfl rfl (Nat.le_of_ble_eq_true rfl) (fun E C X => ?_)
  refine cr_aload_n (pc := 0) C dX3_write_0 rfl ?_
  refine cr_getr (pc := 1) (c := 3) (k := 1) C (by first | rfl | assumption | (simp [cg_ok]; omega)) rfl (by decide) rfl inX3_write_X3 flX3_write_19 dX3_write_1 ?_
  refine cr_aload_n (pc := 4) C dX3_write_4 rfl ?_
  refine cr_getr (pc := 5) (c := 3) (k := 0) C (by first | rfl | assumption | (simp [cg_ok]; omega)) rfl (by decide) rfl inX3_write_X3 flX3_write_12 dX3_write_5 ?_
  refine cr_dV (pc := 8) C (sp_prepare hf5 hf) rfl gX3_write_X0_prepare rfl dX3_write_8 (by first | rfl | assumption | (simp [cg_ok]; omega)) rfl hvX0_prepare rfl ⟨rfl, rfl, Nat.le_of_ble_eq_true rfl, Nat.le_of_ble_eq_true rfl⟩ (Nat.le_of_ble_eq_true rfl) rfl ?_
  rw [cg_do_id]
  refine cr_aload_n (pc := 11) C dX3_write_11 rfl ?_
  refine cr_aload_n (pc := 12) C dX3_write_12 rfl ?_
  refine cr_getr (pc := 13) (c := 3) (k := 0) C (by first | rfl | assumption | (simp [cg_ok]; omega)) rfl (by decide) rfl inX3_write_X3 flX3_write_12 dX3_write_13 ?_
  refine cr_iload_n (pc := 16) C dX3_write_16 rfl ?_
  refine cr_iload_n (pc := 17) C dX3_write_17 rfl ?_
  refine cr_iload_n (pc := 18) C dX3_write_18 rfl ?_
  refine cr_iload (pc := 19) C dX3_write_19 rfl ?_
  refine cr_dV (pc := 21) C (H) rfl gX3_write_X2_writeKey rfl dX3_write_21 (by first | rfl | assumption | (simp [cg_ok]; omega)) rfl hvX2_writeKey rfl ⟨rfl, rfl, Nat.le_of_ble_eq_true rfl, Nat.le_of_ble_eq_true rfl⟩ (Nat.le_of_ble_eq_true rfl) rfl ?_
  refine cr_dV (pc := 24) C (sp_end0 he h1 h2 hw) rfl gX3_write_X3_endUndoable rfl dX3_write_24 (by first | rfl | assumption | (simp [cg_ok]; omega)) rfl hvX3_endUndoable rfl ⟨rfl, rfl, Nat.le_of_ble_eq_true rfl, Nat.le_of_ble_eq_true rfl⟩ (Nat.le_of_ble_eq_true rfl) rfl ?_
  refine cr_ireturn (pc := 27) C X dX3_write_27 ?_
  exact ⟨rfl, rfl⟩
set_option maxRecDepth 100000 in
set_option maxHeartbeats 4000000 in
theorem sp_sync_ok {M : cg_M} {x y : Int32} {f z : Nat} {w : Int32} {P : Nat → Int32} (hf5 : f < 5) (hf : M 14 1 = nI f) (hz5 : z < 5) (hz : M 14 2 = nI z) (H : cg_D yX2_synchronize wsX2_synchronize rmX2_synchronize (.inr (.inr (0, 0, 0, 0)) :: [.inl (x), .inl (y)]) (cg_do M f (M 0)) (some (.inl w)) (cg_do M f P)) (hw : ¬ w < 0) : cg_D yX3_sync wsX3_sync rmX3_sync [.inr (.inr (3, 0, 0, 0)), .inl (x), .inl (y)] M (some (.inl w)) (cg_keep (cg_do M f P) f z) := by
  refine cg_S_of (cc := cX3_sync) (maxL := 3) (ret := (some .int)) (ls0 := [some (.inr (.inr (3, 0, 0, 0))), some (.inl (x)), some (.inl (y))]) RX3 rfl (by decide) rfl rfl (Nat.le_of_ble_eq_true rfl) (fun E C X => ?_)
  refine cr_aload_n (pc := 0) C dX3_sync_0 rfl ?_
  refine cr_getr (pc := 1) (c := 3) (k := 1) C (by first | rfl | assumption | (simp [cg_ok]; omega)) rfl (by decide) rfl inX3_sync_X3 flX3_sync_19 dX3_sync_1 ?_
  refine cr_aload_n (pc := 4) C dX3_sync_4 rfl ?_
  refine cr_getr (pc := 5) (c := 3) (k := 0) C (by first | rfl | assumption | (simp [cg_ok]; omega)) rfl (by decide) rfl inX3_sync_X3 flX3_sync_12 dX3_sync_5 ?_
  refine cr_dV (pc := 8) C (sp_prepare hf5 hf) rfl gX3_sync_X0_prepare rfl dX3_sync_8 (by first | rfl | assumption | (simp [cg_ok]; omega)) rfl hvX0_prepare rfl ⟨rfl, rfl, Nat.le_of_ble_eq_true rfl, Nat.le_of_ble_eq_true rfl⟩ (Nat.le_of_ble_eq_true rfl) rfl ?_
  rw [cg_do_id]
  refine cr_aload_n (pc := 11) C dX3_sync_11 rfl ?_
  refine cr_aload_n (pc := 12) C dX3_sync_12 rfl ?_
  refine cr_getr (pc := 13) (c := 3) (k := 0) C (by first | rfl | assumption | (simp [cg_ok]; omega)) rfl (by decide) rfl inX3_sync_X3 flX3_sync_12 dX3_sync_13 ?_
  refine cr_iload_n (pc := 16) C dX3_sync_16 rfl ?_
  refine cr_iload_n (pc := 17) C dX3_sync_17 rfl ?_
  refine cr_dV (pc := 18) C (H) rfl gX3_sync_X2_synchronize rfl dX3_sync_18 (by first | rfl | assumption | (simp [cg_ok]; omega)) rfl hvX2_synchronize rfl ⟨rfl, rfl, Nat.le_of_ble_eq_true rfl, Nat.le_of_ble_eq_true rfl⟩ (Nat.le_of_ble_eq_true rfl) rfl ?_
  refine cr_dV (pc := 21) C (sp_end1 hf5 (by rw [cg_do_14 hf5]; exact hf) hz5 (by rw [cg_do_14 hf5]; exact hz) hw) rfl gX3_sync_X3_endUndoable rfl dX3_sync_21 (by first | rfl | assumption | (simp [cg_ok]; omega)) rfl hvX3_endUndoable rfl ⟨rfl, rfl, Nat.le_of_ble_eq_true rfl, Nat.le_of_ble_eq_true rfl⟩ (Nat.le_of_ble_eq_true rfl) rfl ?_
  refine cr_ireturn (pc := 24) C X dX3_sync_24 ?_
  exact ⟨rfl, rfl⟩
set_option maxRecDepth 100000 in
set_option maxHeartbeats 4000000 in
theorem sp_sync_er {M : cg_M} {x y : Int32} {f e : Nat} {w : Int32} (hf5 : f < 5) (hf : M 14 1 = nI f) (H : cg_D yX2_synchronize wsX2_synchronize rmX2_synchronize (.inr (.inr (0, 0, 0, 0)) :: [.inl (x), .inl (y)]) (cg_do M f (M 0)) (some (.inl w)) (cg_do M f (M 0))) (he : e < 5) (h1 : (-6) ≤ w) (h2 : w ≤ (-2)) (hw : (-2) - w = nI e) : cg_D yX3_sync wsX3_sync rmX3_sync [.inr (.inr (3, 0, 0, 0)), .inl (x), .inl (y)] M (some (.inl w)) (cg_err (cg_do M f (M 0)) e) := by
  refine cg_S_of (cc := cX3_sync) (maxL := 3) (ret := (some .int)) (ls0 := [some (.inr (.inr (3, 0, 0, 0))), some (.inl (x)), some (.inl (y))]) RX3 rfl (by decide) rfl rfl (Nat.le_of_ble_eq_true rfl) (fun E C X => ?_)
  refine cr_aload_n (pc := 0) C dX3_sync_0 rfl ?_
  refine cr_getr (pc := 1) (c := 3) (k := 1) C (by first | rfl | assumption | (simp [cg_ok]; omega)) rfl (by decide) rfl inX3_sync_X3 flX3_sync_19 dX3_sync_1 ?_
  refine cr_aload_n (pc := 4) C dX3_sync_4 rfl ?_
  refine cr_getr (pc := 5) (c := 3) (k := 0) C (by first | rfl | assumption | (simp [cg_ok]; omega)) rfl (by decide) rfl inX3_sync_X3 flX3_sync_12 dX3_sync_5 ?_
  refine cr_dV (pc := 8) C (sp_prepare hf5 hf) rfl gX3_sync_X0_prepare rfl dX3_sync_8 (by first | rfl | assumption | (simp [cg_ok]; omega)) rfl hvX0_prepare rfl ⟨rfl, rfl, Nat.le_of_ble_eq_true rfl, Nat.le_of_ble_eq_true rfl⟩ (Nat.le_of_ble_eq_true rfl) rfl ?_
  rw [cg_do_id]
  refine cr_aload_n (pc := 11) C dX3_sync_11 rfl ?_
  refine cr_aload_n (pc := 12) C dX3_sync_12 rfl ?_
  refine cr_getr (pc := 13) (c := 3) (k := 0) C (by first | rfl | assumption | (simp [cg_ok]; omega)) rfl (by decide) rfl inX3_sync_X3 flX3_sync_12 dX3_sync_13 ?_
  refine cr_iload_n (pc := 16) C dX3_sync_16 rfl ?_
  refine cr_iload_n (pc := 17) C dX3_sync_17 rfl ?_
  refine cr_dV (pc := 18) C (H) rfl gX3_sync_X2_synchronize rfl dX3_sync_18 (by first | rfl | assumption | (simp [cg_ok]; omega)) rfl hvX2_synchronize rfl ⟨rfl, rfl, Nat.le_of_ble_eq_true rfl, Nat.le_of_ble_eq_true rfl⟩ (Nat.le_of_ble_eq_true rfl) rfl ?_
  refine cr_dV (pc := 21) C (sp_end0 he h1 h2 hw) rfl gX3_sync_X3_endUndoable rfl dX3_sync_21 (by first | rfl | assumption | (simp [cg_ok]; omega)) rfl hvX3_endUndoable rfl ⟨rfl, rfl, Nat.le_of_ble_eq_true rfl, Nat.le_of_ble_eq_true rfl⟩ (Nat.le_of_ble_eq_true rfl) rfl ?_
  refine cr_ireturn (pc := 24) C X dX3_sync_24 ?_
  exact ⟨rfl, rfl⟩
set_option maxRecDepth 100000 in
set_option maxHeartbeats 4000000 in
theorem sp_readCount1 {M : cg_M} {c o : Nat}  (ha : c < 4) (hb : o < 3)  : cg_D yX3_readCount wsX3_readCount rmX3_readCount [.inr (.inr (3, 0, 0, 0)), .inl (nI c), .inl (nI o)] M (some (.inl (M 0 (314 + 7 * c + o)))) (M) := by
  refine cg_S_of (cc := cX3_readCount) (maxL := 3) (ret := (some .int)) (ls0 := [some (.inr (.inr (3, 0, 0, 0))), some (.inl (nI c)), some (.inl (nI o))]) RX3 rfl (by decide) rfl rfl (Nat.le_of_ble_eq_true rfl) (fun E C X => ?_)
  refine cr_iload_n (pc := 0) C dX3_readCount_0 rfl ?_
  refine cr_dS (pc := 1) C (sp_isClient1 ha) rfl gX3_readCount_X3_isClient rfl dX3_readCount_1 hsX3_isClient rfl ⟨rfl, rfl, Nat.le_of_ble_eq_true rfl, Nat.le_of_ble_eq_true rfl⟩ (Nat.le_of_ble_eq_true rfl) rfl ?_
  refine cr_if_eq_f (pc := 4) (tgt := 14) C dX3_readCount_4 (by decide) (by decide) ?_
  refine cr_iload_n (pc := 7) C dX3_readCount_7 rfl ?_
  refine cr_dS (pc := 8) C (sp_isReplica1 hb) rfl gX3_readCount_X3_isReplica rfl dX3_readCount_8 hsX3_isReplica rfl ⟨rfl, rfl, Nat.le_of_ble_eq_true rfl, Nat.le_of_ble_eq_true rfl⟩ (Nat.le_of_ble_eq_true rfl) rfl ?_
  refine cr_if_ne_t (pc := 11) (tgt := 21) C dX3_readCount_11 (by decide) (by decide) ?_
  refine cr_aload_n (pc := 21) C dX3_readCount_21 rfl ?_
  refine cr_getr (pc := 22) (c := 3) (k := 0) C (by first | rfl | assumption | (simp [cg_ok]; omega)) rfl (by decide) rfl inX3_readCount_X3 flX3_readCount_12 dX3_readCount_22 ?_
  refine cr_getr (pc := 25) (c := 2) (k := 9) C (by first | rfl | assumption | (simp [cg_ok]; omega)) rfl (by decide) rfl inX3_readCount_X2 flX3_readCount_59 dX3_readCount_25 ?_
  refine cr_iload_n (pc := 28) C dX3_readCount_28 rfl ?_
  refine cr_aaload (pc := 29) C rfl (by first | rfl | assumption | (simp [cg_ok]; omega)) (by omega) (by first | decide | omega) dX3_readCount_29 ?_
  refine cr_iload_n (pc := 30) C dX3_readCount_30 rfl ?_
  refine cr_iaload (pc := 31) C rfl (by first | rfl | assumption | (simp [cg_ok]; omega)) (by omega) (by first | decide | omega) dX3_readCount_31 ?_
  refine cr_ireturn (pc := 32) C X dX3_readCount_32 ?_
  exact ⟨rfl, rfl⟩
set_option maxRecDepth 100000 in
set_option maxHeartbeats 4000000 in
theorem sp_readCount0 {M : cg_M} {x y : Int32} (h : ¬ (cg_in x 4 ∧ cg_in y 3)) : cg_D yX3_readCount wsX3_readCount rmX3_readCount [.inr (.inr (3, 0, 0, 0)), .inl (x), .inl (y)] M (some (.inl (-2))) (cg_err M 0) := by
  rcases Classical.em (cg_in x 4) with ⟨a, ha, rfl⟩ | hx
  · refine cg_S_of (cc := cX3_readCount) (maxL := 3) (ret := (some .int)) (ls0 := [some (.inr (.inr (3, 0, 0, 0))), some (.inl (nI a)), some (.inl (y))]) RX3 rfl (by decide) rfl rfl (Nat.le_of_ble_eq_true rfl) (fun E C X => ?_)
    refine cr_iload_n (pc := 0) C dX3_readCount_0 rfl ?_
    refine cr_dS (pc := 1) C (sp_isClient1 ha) rfl gX3_readCount_X3_isClient rfl dX3_readCount_1 hsX3_isClient rfl ⟨rfl, rfl, Nat.le_of_ble_eq_true rfl, Nat.le_of_ble_eq_true rfl⟩ (Nat.le_of_ble_eq_true rfl) rfl ?_
    refine cr_if_eq_f (pc := 4) (tgt := 14) C dX3_readCount_4 (by decide) (by decide) ?_
    refine cr_iload_n (pc := 7) C dX3_readCount_7 rfl ?_
    refine cr_dS (pc := 8) C (sp_isReplica0 (fun q => h ⟨⟨_, ha, rfl⟩, q⟩)) rfl gX3_readCount_X3_isReplica rfl dX3_readCount_8 hsX3_isReplica rfl ⟨rfl, rfl, Nat.le_of_ble_eq_true rfl, Nat.le_of_ble_eq_true rfl⟩ (Nat.le_of_ble_eq_true rfl) rfl ?_
    refine cr_if_ne_f (pc := 11) (tgt := 21) C dX3_readCount_11 (by decide) (by decide) ?_
    refine cr_aload_n (pc := 14) C dX3_readCount_14 rfl ?_
    refine cr_bipush (pc := 15) (v := (-2)) C dX3_readCount_15 (by decide) ?_
    refine cr_dV (pc := 17) C (sp_counted1 (e := 0) (by decide) (by decide) (by decide) (by decide)) rfl gX3_readCount_X3_counted rfl dX3_readCount_17 (by first | rfl | assumption | (simp [cg_ok]; omega)) rfl hvX3_counted rfl ⟨rfl, rfl, Nat.le_of_ble_eq_true rfl, Nat.le_of_ble_eq_true rfl⟩ (Nat.le_of_ble_eq_true rfl) rfl ?_
    refine cr_ireturn (pc := 20) C X dX3_readCount_20 ?_
    exact ⟨rfl, rfl⟩
  · refine cg_S_of (cc := cX3_readCount) (maxL := 3) (ret := (some .int)) (ls0 := [some (.inr (.inr (3, 0, 0, 0))), some (.inl (x)), some (.inl (y))]) RX3 rfl (by decide) rfl rfl (Nat.le_of_ble_eq_true rfl) (fun E C X => ?_)
    refine cr_iload_n (pc := 0) C dX3_readCount_0 rfl ?_
    refine cr_dS (pc := 1) C (sp_isClient0 hx) rfl gX3_readCount_X3_isClient rfl dX3_readCount_1 hsX3_isClient rfl ⟨rfl, rfl, Nat.le_of_ble_eq_true rfl, Nat.le_of_ble_eq_true rfl⟩ (Nat.le_of_ble_eq_true rfl) rfl ?_
    refine cr_if_eq_t (pc := 4) (tgt := 14) C dX3_readCount_4 (by decide) (by decide) ?_
    refine cr_aload_n (pc := 14) C dX3_readCount_14 rfl ?_
    refine cr_bipush (pc := 15) (v := (-2)) C dX3_readCount_15 (by decide) ?_
    refine cr_dV (pc := 17) C (sp_counted1 (e := 0) (by decide) (by decide) (by decide) (by decide)) rfl gX3_readCount_X3_counted rfl dX3_readCount_17 (by first | rfl | assumption | (simp [cg_ok]; omega)) rfl hvX3_counted rfl ⟨rfl, rfl, Nat.le_of_ble_eq_true rfl, Nat.le_of_ble_eq_true rfl⟩ (Nat.le_of_ble_eq_true rfl) rfl ?_
    refine cr_ireturn (pc := 20) C X dX3_readCount_20 ?_
    exact ⟨rfl, rfl⟩
set_option maxRecDepth 100000 in
set_option maxHeartbeats 4000000 in
theorem sp_writeCount1 {M : cg_M} {c o : Nat}  (ha : c < 4) (hb : o < 3)  : cg_D yX3_writeCount wsX3_writeCount rmX3_writeCount [.inr (.inr (3, 0, 0, 0)), .inl (nI c), .inl (nI o)] M (some (.inl (M 0 (317 + 7 * c + o)))) (M) := by
  refine cg_S_of (cc := cX3_writeCount) (maxL := 3) (ret := (some .int)) (ls0 := [some (.inr (.inr (3, 0, 0, 0))), some (.inl (nI c)), some (.inl (nI o))]) RX3 rfl (by decide) rfl rfl (Nat.le_of_ble_eq_true rfl) (fun E C X => ?_)
  refine cr_iload_n (pc := 0) C dX3_writeCount_0 rfl ?_
  refine cr_dS (pc := 1) C (sp_isClient1 ha) rfl gX3_writeCount_X3_isClient rfl dX3_writeCount_1 hsX3_isClient rfl ⟨rfl, rfl, Nat.le_of_ble_eq_true rfl, Nat.le_of_ble_eq_true rfl⟩ (Nat.le_of_ble_eq_true rfl) rfl ?_
  refine cr_if_eq_f (pc := 4) (tgt := 14) C dX3_writeCount_4 (by decide) (by decide) ?_
  refine cr_iload_n (pc := 7) C dX3_writeCount_7 rfl ?_
  refine cr_dS (pc := 8) C (sp_isReplica1 hb) rfl gX3_writeCount_X3_isReplica rfl dX3_writeCount_8 hsX3_isReplica rfl ⟨rfl, rfl, Nat.le_of_ble_eq_true rfl, Nat.le_of_ble_eq_true rfl⟩ (Nat.le_of_ble_eq_true rfl) rfl ?_
  refine cr_if_ne_t (pc := 11) (tgt := 21) C dX3_writeCount_11 (by decide) (by decide) ?_
  refine cr_aload_n (pc := 21) C dX3_writeCount_21 rfl ?_
  refine cr_getr (pc := 22) (c := 3) (k := 0) C (by first | rfl | assumption | (simp [cg_ok]; omega)) rfl (by decide) rfl inX3_writeCount_X3 flX3_writeCount_12 dX3_writeCount_22 ?_
  refine cr_getr (pc := 25) (c := 2) (k := 10) C (by first | rfl | assumption | (simp [cg_ok]; omega)) rfl (by decide) rfl inX3_writeCount_X2 flX3_writeCount_63 dX3_writeCount_25 ?_
  refine cr_iload_n (pc := 28) C dX3_writeCount_28 rfl ?_
  refine cr_aaload (pc := 29) C rfl (by first | rfl | assumption | (simp [cg_ok]; omega)) (by omega) (by first | decide | omega) dX3_writeCount_29 ?_
  refine cr_iload_n (pc := 30) C dX3_writeCount_30 rfl ?_
  refine cr_iaload (pc := 31) C rfl (by first | rfl | assumption | (simp [cg_ok]; omega)) (by omega) (by first | decide | omega) dX3_writeCount_31 ?_
  refine cr_ireturn (pc := 32) C X dX3_writeCount_32 ?_
  exact ⟨rfl, rfl⟩
set_option maxRecDepth 100000 in
set_option maxHeartbeats 4000000 in
theorem sp_writeCount0 {M : cg_M} {x y : Int32} (h : ¬ (cg_in x 4 ∧ cg_in y 3)) : cg_D yX3_writeCount wsX3_writeCount rmX3_writeCount [.inr (.inr (3, 0, 0, 0)), .inl (x), .inl (y)] M (some (.inl (-2))) (cg_err M 0) := by
  rcases Classical.em (cg_in x 4) with ⟨a, ha, rfl⟩ | hx
  · refine cg_S_of (cc := cX3_writeCount) (maxL := 3) (ret := (some .int)) (ls0 := [some (.inr (.inr (3, 0, 0, 0))), some (.inl (nI a)), some (.inl (y))]) RX3 rfl (by decide) rfl rfl (Nat.le_of_ble_eq_true rfl) (fun E C X => ?_)
    refine cr_iload_n (pc := 0) C dX3_writeCount_0 rfl ?_
    refine cr_dS (pc := 1) C (sp_isClient1 ha) rfl gX3_writeCount_X3_isClient rfl dX3_writeCount_1 hsX3_isClient rfl ⟨rfl, rfl, Nat.le_of_ble_eq_true rfl, Nat.le_of_ble_eq_true rfl⟩ (Nat.le_of_ble_eq_true rfl) rfl ?_
    refine cr_if_eq_f (pc := 4) (tgt := 14) C dX3_writeCount_4 (by decide) (by decide) ?_
    refine cr_iload_n (pc := 7) C dX3_writeCount_7 rfl ?_
    refine cr_dS (pc := 8) C (sp_isReplica0 (fun q => h ⟨⟨_, ha, rfl⟩, q⟩)) rfl gX3_writeCount_X3_isReplica rfl dX3_writeCount_8 hsX3_isReplica rfl ⟨rfl, rfl, Nat.le_of_ble_eq_true rfl, Nat.le_of_ble_eq_true rfl⟩ (Nat.le_of_ble_eq_true rfl) rfl ?_
    refine cr_if_ne_f (pc := 11) (tgt := 21) C dX3_writeCount_11 (by decide) (by decide) ?_
    refine cr_aload_n (pc := 14) C dX3_writeCount_14 rfl ?_
    refine cr_bipush (pc := 15) (v := (-2)) C dX3_writeCount_15 (by decide) ?_
    refine cr_dV (pc := 17) C (sp_counted1 (e := 0) (by decide) (by decide) (by decide) (by decide)) rfl gX3_writeCount_X3_counted rfl dX3_writeCount_17 (by first | rfl | assumption | (simp [cg_ok]; omega)) rfl hvX3_counted rfl ⟨rfl, rfl, Nat.le_of_ble_eq_true rfl, Nat.le_of_ble_eq_true rfl⟩ (Nat.le_of_ble_eq_true rfl) rfl ?_
    refine cr_ireturn (pc := 20) C X dX3_writeCount_20 ?_
    exact ⟨rfl, rfl⟩
  · refine cg_S_of (cc := cX3_writeCount) (maxL := 3) (ret := (some .int)) (ls0 := [some (.inr (.inr (3, 0, 0, 0))), some (.inl (x)), some (.inl (y))]) RX3 rfl (by decide) rfl rfl (Nat.le_of_ble_eq_true rfl) (fun E C X => ?_)
    refine cr_iload_n (pc := 0) C dX3_writeCount_0 rfl ?_
    refine cr_dS (pc := 1) C (sp_isClient0 hx) rfl gX3_writeCount_X3_isClient rfl dX3_writeCount_1 hsX3_isClient rfl ⟨rfl, rfl, Nat.le_of_ble_eq_true rfl, Nat.le_of_ble_eq_true rfl⟩ (Nat.le_of_ble_eq_true rfl) rfl ?_
    refine cr_if_eq_t (pc := 4) (tgt := 14) C dX3_writeCount_4 (by decide) (by decide) ?_
    refine cr_aload_n (pc := 14) C dX3_writeCount_14 rfl ?_
    refine cr_bipush (pc := 15) (v := (-2)) C dX3_writeCount_15 (by decide) ?_
    refine cr_dV (pc := 17) C (sp_counted1 (e := 0) (by decide) (by decide) (by decide) (by decide)) rfl gX3_writeCount_X3_counted rfl dX3_writeCount_17 (by first | rfl | assumption | (simp [cg_ok]; omega)) rfl hvX3_counted rfl ⟨rfl, rfl, Nat.le_of_ble_eq_true rfl, Nat.le_of_ble_eq_true rfl⟩ (Nat.le_of_ble_eq_true rfl) rfl ?_
    refine cr_ireturn (pc := 20) C X dX3_writeCount_20 ?_
    exact ⟨rfl, rfl⟩
set_option maxRecDepth 100000 in
set_option maxHeartbeats 4000000 in
theorem sp_count1 {M : cg_M} {r o : Nat}  (ha : r < 3) (hb : o < 3)  : cg_D yX3_count wsX3_count rmX3_count [.inr (.inr (3, 0, 0, 0)), .inl (nI r), .inl (nI o)] M (some (.inl (M 0 (3 * r + o)))) (M) := by
  refine cg_S_of (cc := cX3_count) (maxL := 3) (ret := (some .int)) (ls0 := [some (.inr (.inr (3, 0, 0, 0))), some (.inl (nI r)), some (.inl (nI o))]) RX3 rfl (by decide) rfl rfl (Nat.le_of_ble_eq_true rfl) (fun E C X => ?_)
  refine cr_iload_n (pc := 0) C dX3_count_0 rfl ?_
  refine cr_dS (pc := 1) C (sp_isReplica1 ha) rfl gX3_count_X3_isReplica rfl dX3_count_1 hsX3_isReplica rfl ⟨rfl, rfl, Nat.le_of_ble_eq_true rfl, Nat.le_of_ble_eq_true rfl⟩ (Nat.le_of_ble_eq_true rfl) rfl ?_
  refine cr_if_eq_f (pc := 4) (tgt := 14) C dX3_count_4 (by decide) (by decide) ?_
  refine cr_iload_n (pc := 7) C dX3_count_7 rfl ?_
  refine cr_dS (pc := 8) C (sp_isReplica1 hb) rfl gX3_count_X3_isReplica rfl dX3_count_8 hsX3_isReplica rfl ⟨rfl, rfl, Nat.le_of_ble_eq_true rfl, Nat.le_of_ble_eq_true rfl⟩ (Nat.le_of_ble_eq_true rfl) rfl ?_
  refine cr_if_ne_t (pc := 11) (tgt := 21) C dX3_count_11 (by decide) (by decide) ?_
  refine cr_aload_n (pc := 21) C dX3_count_21 rfl ?_
  refine cr_getr (pc := 22) (c := 3) (k := 0) C (by first | rfl | assumption | (simp [cg_ok]; omega)) rfl (by decide) rfl inX3_count_X3 flX3_count_12 dX3_count_22 ?_
  refine cr_getr (pc := 25) (c := 2) (k := 6) C (by first | rfl | assumption | (simp [cg_ok]; omega)) rfl (by decide) rfl inX3_count_X2 flX3_count_96 dX3_count_25 ?_
  refine cr_iload_n (pc := 28) C dX3_count_28 rfl ?_
  refine cr_aaload (pc := 29) C rfl (by first | rfl | assumption | (simp [cg_ok]; omega)) (by omega) (by first | decide | omega) dX3_count_29 ?_
  refine cr_iload_n (pc := 30) C dX3_count_30 rfl ?_
  refine cr_iaload (pc := 31) C rfl (by first | rfl | assumption | (simp [cg_ok]; omega)) (by omega) (by first | decide | omega) dX3_count_31 ?_
  refine cr_ireturn (pc := 32) C X dX3_count_32 ?_
  exact ⟨rfl, rfl⟩
set_option maxRecDepth 100000 in
set_option maxHeartbeats 4000000 in
theorem sp_count0 {M : cg_M} {x y : Int32} (h : ¬ (cg_in x 3 ∧ cg_in y 3)) : cg_D yX3_count wsX3_count rmX3_count [.inr (.inr (3, 0, 0, 0)), .inl (x), .inl (y)] M (some (.inl (-2))) (cg_err M 0) := by
  rcases Classical.em (cg_in x 3) with ⟨a, ha, rfl⟩ | hx
  · refine cg_S_of (cc := cX3_count) (maxL := 3) (ret := (some .int)) (ls0 := [some (.inr (.inr (3, 0, 0, 0))), some (.inl (nI a)), some (.inl (y))]) RX3 rfl (by decide) rfl rfl (Nat.le_of_ble_eq_true rfl) (fun E C X => ?_)
    refine cr_iload_n (pc := 0) C dX3_count_0 rfl ?_
    refine cr_dS (pc := 1) C (sp_isReplica1 ha) rfl gX3_count_X3_isReplica rfl dX3_count_1 hsX3_isReplica rfl ⟨rfl, rfl, Nat.le_of_ble_eq_true rfl, Nat.le_of_ble_eq_true rfl⟩ (Nat.le_of_ble_eq_true rfl) rfl ?_
    refine cr_if_eq_f (pc := 4) (tgt := 14) C dX3_count_4 (by decide) (by decide) ?_
    refine cr_iload_n (pc := 7) C dX3_count_7 rfl ?_
    refine cr_dS (pc := 8) C (sp_isReplica0 (fun q => h ⟨⟨_, ha, rfl⟩, q⟩)) rfl gX3_count_X3_isReplica rfl dX3_count_8 hsX3_isReplica rfl ⟨rfl, rfl, Nat.le_of_ble_eq_true rfl, Nat.le_of_ble_eq_true rfl⟩ (Nat.le_of_ble_eq_true rfl) rfl ?_
    refine cr_if_ne_f (pc := 11) (tgt := 21) C dX3_count_11 (by decide) (by decide) ?_
    refine cr_aload_n (pc := 14) C dX3_count_14 rfl ?_
    refine cr_bipush (pc := 15) (v := (-2)) C dX3_count_15 (by decide) ?_
    refine cr_dV (pc := 17) C (sp_counted1 (e := 0) (by decide) (by decide) (by decide) (by decide)) rfl gX3_count_X3_counted rfl dX3_count_17 (by first | rfl | assumption | (simp [cg_ok]; omega)) rfl hvX3_counted rfl ⟨rfl, rfl, Nat.le_of_ble_eq_true rfl, Nat.le_of_ble_eq_true rfl⟩ (Nat.le_of_ble_eq_true rfl) rfl ?_
    refine cr_ireturn (pc := 20) C X dX3_count_20 ?_
    exact ⟨rfl, rfl⟩
  · refine cg_S_of (cc := cX3_count) (maxL := 3) (ret := (some .int)) (ls0 := [some (.inr (.inr (3, 0, 0, 0))), some (.inl (x)), some (.inl (y))]) RX3 rfl (by decide) rfl rfl (Nat.le_of_ble_eq_true rfl) (fun E C X => ?_)
    refine cr_iload_n (pc := 0) C dX3_count_0 rfl ?_
    refine cr_dS (pc := 1) C (sp_isReplica0 hx) rfl gX3_count_X3_isReplica rfl dX3_count_1 hsX3_isReplica rfl ⟨rfl, rfl, Nat.le_of_ble_eq_true rfl, Nat.le_of_ble_eq_true rfl⟩ (Nat.le_of_ble_eq_true rfl) rfl ?_
    refine cr_if_eq_t (pc := 4) (tgt := 14) C dX3_count_4 (by decide) (by decide) ?_
    refine cr_aload_n (pc := 14) C dX3_count_14 rfl ?_
    refine cr_bipush (pc := 15) (v := (-2)) C dX3_count_15 (by decide) ?_
    refine cr_dV (pc := 17) C (sp_counted1 (e := 0) (by decide) (by decide) (by decide) (by decide)) rfl gX3_count_X3_counted rfl dX3_count_17 (by first | rfl | assumption | (simp [cg_ok]; omega)) rfl hvX3_counted rfl ⟨rfl, rfl, Nat.le_of_ble_eq_true rfl, Nat.le_of_ble_eq_true rfl⟩ (Nat.le_of_ble_eq_true rfl) rfl ?_
    refine cr_ireturn (pc := 20) C X dX3_count_20 ?_
    exact ⟨rfl, rfl⟩
set_option maxRecDepth 100000 in
set_option maxHeartbeats 4000000 in
theorem sp_clock1 {M : cg_M} {r : Nat} (hr : r < 3) : cg_D yX3_clock wsX3_clock rmX3_clock [.inr (.inr (3, 0, 0, 0)), .inl (nI r)] M (some (.inl (M 0 (9 + r)))) (M) := by
  refine cg_S_of (cc := cX3_clock) (maxL := 2) (ret := (some .int)) (ls0 := [some (.inr (.inr (3, 0, 0, 0))), some (.inl (nI r))]) RX3 rfl (by decide) rfl rfl (Nat.le_of_ble_eq_true rfl) (fun E C X => ?_)
  refine cr_iload_n (pc := 0) C dX3_clock_0 rfl ?_
  refine cr_dS (pc := 1) C (sp_isReplica1 hr) rfl gX3_clock_X3_isReplica rfl dX3_clock_1 hsX3_isReplica rfl ⟨rfl, rfl, Nat.le_of_ble_eq_true rfl, Nat.le_of_ble_eq_true rfl⟩ (Nat.le_of_ble_eq_true rfl) rfl ?_
  refine cr_if_ne_t (pc := 4) (tgt := 14) C dX3_clock_4 (by decide) (by decide) ?_
  refine cr_aload_n (pc := 14) C dX3_clock_14 rfl ?_
  refine cr_getr (pc := 15) (c := 3) (k := 0) C (by first | rfl | assumption | (simp [cg_ok]; omega)) rfl (by decide) rfl inX3_clock_X3 flX3_clock_12 dX3_clock_15 ?_
  refine cr_getr (pc := 18) (c := 2) (k := 7) C (by first | rfl | assumption | (simp [cg_ok]; omega)) rfl (by decide) rfl inX3_clock_X2 flX3_clock_99 dX3_clock_18 ?_
  refine cr_iload_n (pc := 21) C dX3_clock_21 rfl ?_
  refine cr_iaload (pc := 22) C rfl (by first | rfl | assumption | (simp [cg_ok]; omega)) (by omega) (by first | decide | omega) dX3_clock_22 ?_
  refine cr_ireturn (pc := 23) C X dX3_clock_23 ?_
  exact ⟨rfl, rfl⟩
set_option maxRecDepth 100000 in
set_option maxHeartbeats 4000000 in
theorem sp_clock0 {M : cg_M} {x : Int32} (h : ¬ cg_in x 3) : cg_D yX3_clock wsX3_clock rmX3_clock [.inr (.inr (3, 0, 0, 0)), .inl (x)] M (some (.inl (-2))) (cg_err M 0) := by
  refine cg_S_of (cc := cX3_clock) (maxL := 2) (ret := (some .int)) (ls0 := [some (.inr (.inr (3, 0, 0, 0))), some (.inl (x))]) RX3 rfl (by decide) rfl rfl (Nat.le_of_ble_eq_true rfl) (fun E C X => ?_)
  refine cr_iload_n (pc := 0) C dX3_clock_0 rfl ?_
  refine cr_dS (pc := 1) C (sp_isReplica0 h) rfl gX3_clock_X3_isReplica rfl dX3_clock_1 hsX3_isReplica rfl ⟨rfl, rfl, Nat.le_of_ble_eq_true rfl, Nat.le_of_ble_eq_true rfl⟩ (Nat.le_of_ble_eq_true rfl) rfl ?_
  refine cr_if_ne_f (pc := 4) (tgt := 14) C dX3_clock_4 (by decide) (by decide) ?_
  refine cr_aload_n (pc := 7) C dX3_clock_7 rfl ?_
  refine cr_bipush (pc := 8) (v := (-2)) C dX3_clock_8 (by decide) ?_
  refine cr_dV (pc := 10) C (sp_counted1 (e := 0) (by decide) (by decide) (by decide) (by decide)) rfl gX3_clock_X3_counted rfl dX3_clock_10 (by first | rfl | assumption | (simp [cg_ok]; omega)) rfl hvX3_counted rfl ⟨rfl, rfl, Nat.le_of_ble_eq_true rfl, Nat.le_of_ble_eq_true rfl⟩ (Nat.le_of_ble_eq_true rfl) rfl ?_
  refine cr_ireturn (pc := 13) C X dX3_clock_13 ?_
  exact ⟨rfl, rfl⟩
set_option maxRecDepth 100000 in
set_option maxHeartbeats 4000000 in
theorem sp_breaches1 {M : cg_M} {r : Nat} (hr : r < 4) : cg_D yX3_breaches wsX3_breaches rmX3_breaches [.inr (.inr (3, 0, 0, 0)), .inl (nI r)] M (some (.inl (M 0 (341 + r)))) (M) := by
  refine cg_S_of (cc := cX3_breaches) (maxL := 2) (ret := (some .int)) (ls0 := [some (.inr (.inr (3, 0, 0, 0))), some (.inl (nI r))]) RX3 rfl (by decide) rfl rfl (Nat.le_of_ble_eq_true rfl) (fun E C X => ?_)
  refine cr_iload_n (pc := 0) C dX3_breaches_0 rfl ?_
  refine cr_iconst (pc := 1) (v := nI 4) C dX3_breaches_1 (by decide) ?_
  refine cr_dS (pc := 2) C (sp_isBelow1 hr (by decide)) rfl gX3_breaches_X3_isBelow rfl dX3_breaches_2 hsX3_isBelow rfl ⟨rfl, rfl, Nat.le_of_ble_eq_true rfl, Nat.le_of_ble_eq_true rfl⟩ (Nat.le_of_ble_eq_true rfl) rfl ?_
  refine cr_if_ne_t (pc := 5) (tgt := 15) C dX3_breaches_5 (by decide) (by decide) ?_
  refine cr_aload_n (pc := 15) C dX3_breaches_15 rfl ?_
  refine cr_getr (pc := 16) (c := 3) (k := 0) C (by first | rfl | assumption | (simp [cg_ok]; omega)) rfl (by decide) rfl inX3_breaches_X3 flX3_breaches_12 dX3_breaches_16 ?_
  refine cr_getr (pc := 19) (c := 2) (k := 11) C (by first | rfl | assumption | (simp [cg_ok]; omega)) rfl (by decide) rfl inX3_breaches_X2 flX3_breaches_115 dX3_breaches_19 ?_
  refine cr_iload_n (pc := 22) C dX3_breaches_22 rfl ?_
  refine cr_iaload (pc := 23) C rfl (by first | rfl | assumption | (simp [cg_ok]; omega)) (by omega) (by first | decide | omega) dX3_breaches_23 ?_
  refine cr_ireturn (pc := 24) C X dX3_breaches_24 ?_
  exact ⟨rfl, rfl⟩
set_option maxRecDepth 100000 in
set_option maxHeartbeats 4000000 in
theorem sp_breaches0 {M : cg_M} {x : Int32} (h : ¬ cg_in x 4) : cg_D yX3_breaches wsX3_breaches rmX3_breaches [.inr (.inr (3, 0, 0, 0)), .inl (x)] M (some (.inl (-2))) (cg_err M 0) := by
  refine cg_S_of (cc := cX3_breaches) (maxL := 2) (ret := (some .int)) (ls0 := [some (.inr (.inr (3, 0, 0, 0))), some (.inl (x))]) RX3 rfl (by decide) rfl rfl (Nat.le_of_ble_eq_true rfl) (fun E C X => ?_)
  refine cr_iload_n (pc := 0) C dX3_breaches_0 rfl ?_
  refine cr_iconst (pc := 1) (v := nI 4) C dX3_breaches_1 (by decide) ?_
  refine cr_dS (pc := 2) C (sp_isBelow0 h (by decide)) rfl gX3_breaches_X3_isBelow rfl dX3_breaches_2 hsX3_isBelow rfl ⟨rfl, rfl, Nat.le_of_ble_eq_true rfl, Nat.le_of_ble_eq_true rfl⟩ (Nat.le_of_ble_eq_true rfl) rfl ?_
  refine cr_if_ne_f (pc := 5) (tgt := 15) C dX3_breaches_5 (by decide) (by decide) ?_
  refine cr_aload_n (pc := 8) C dX3_breaches_8 rfl ?_
  refine cr_bipush (pc := 9) (v := (-2)) C dX3_breaches_9 (by decide) ?_
  refine cr_dV (pc := 11) C (sp_counted1 (e := 0) (by decide) (by decide) (by decide) (by decide)) rfl gX3_breaches_X3_counted rfl dX3_breaches_11 (by first | rfl | assumption | (simp [cg_ok]; omega)) rfl hvX3_counted rfl ⟨rfl, rfl, Nat.le_of_ble_eq_true rfl, Nat.le_of_ble_eq_true rfl⟩ (Nat.le_of_ble_eq_true rfl) rfl ?_
  refine cr_ireturn (pc := 14) C X dX3_breaches_14 ?_
  exact ⟨rfl, rfl⟩
set_option maxRecDepth 100000 in
set_option maxHeartbeats 4000000 in
theorem sp_writes {M : cg_M} : cg_D yX3_writes wsX3_writes rmX3_writes [.inr (.inr (3, 0, 0, 0))] M (some (.inl (M 0 12))) (M) := by
  refine cg_S_of (cc := cX3_writes) (maxL := 1) (ret := (some .int)) (ls0 := [some (.inr (.inr (3, 0, 0, 0)))]) RX3 rfl (by decide) rfl rfl (Nat.le_of_ble_eq_true rfl) (fun E C X => ?_)
  refine cr_aload_n (pc := 0) C dX3_writes_0 rfl ?_
  refine cr_getr (pc := 1) (c := 3) (k := 0) C (by first | rfl | assumption | (simp [cg_ok]; omega)) rfl (by decide) rfl inX3_writes_X3 flX3_writes_12 dX3_writes_1 ?_
  refine cr_geti (pc := 4) (c := 2) (k := 0) C (by first | rfl | assumption | (simp [cg_ok]; omega)) rfl (by decide) rfl rfl inX3_writes_X2 flX3_writes_151 dX3_writes_4 ?_
  refine cr_ireturn (pc := 7) C X dX3_writes_7 ?_
  exact ⟨rfl, rfl⟩
set_option maxRecDepth 100000 in
set_option maxHeartbeats 4000000 in
theorem sp_clearText {M : cg_M} : cg_D yX3_clearText wsX3_clearText rmX3_clearText [.inr (.inr (3, 0, 0, 0))] M (some (.inl (M 13 1))) (cg_up M 13 1 (nI 0)) := by
  refine cg_S_of (cc := cX3_clearText) (maxL := 2) (ret := (some .int)) (ls0 := [some (.inr (.inr (3, 0, 0, 0))), none]) RX3 rfl (by decide) rfl rfl (Nat.le_of_ble_eq_true rfl) (fun E C X => ?_)
  refine cr_aload_n (pc := 0) C dX3_clearText_0 rfl ?_
  refine cr_getr (pc := 1) (c := 3) (k := 2) C (by first | rfl | assumption | (simp [cg_ok]; omega)) rfl (by decide) rfl inX3_clearText_X3 flX3_clearText_26 dX3_clearText_1 ?_
  refine cr_geti (pc := 4) (c := 1) (k := 1) C (by first | rfl | assumption | (simp [cg_ok]; omega)) rfl (by decide) rfl rfl inX3_clearText_X1 flX3_clearText_121 dX3_clearText_4 ?_
  refine cr_istore_n1 (pc := 7) C dX3_clearText_7 (by decide) rfl ?_
  refine cr_aload_n (pc := 8) C dX3_clearText_8 rfl ?_
  refine cr_getr (pc := 9) (c := 3) (k := 2) C (by first | rfl | assumption | (simp [cg_ok]; omega)) rfl (by decide) rfl inX3_clearText_X3 flX3_clearText_26 dX3_clearText_9 ?_
  refine cr_iconst (pc := 12) (v := nI 0) C dX3_clearText_12 (by decide) ?_
  refine cr_puti (pc := 13) (c := 1) (k := 1) C (by first | rfl | assumption | (simp [cg_ok]; omega)) rfl (by decide) rfl rfl inX3_clearText_X1 flX3_clearText_121 rfl (by first | rfl | decide) rfl dX3_clearText_13 ?_
  refine cr_iload_n (pc := 16) C dX3_clearText_16 rfl ?_
  refine cr_ireturn (pc := 17) C X dX3_clearText_17 ?_
  exact ⟨rfl, rfl⟩
set_option maxRecDepth 100000 in
set_option maxHeartbeats 4000000 in
theorem sp_errorCount1 {M : cg_M} {x : Int32} {e : Nat} (he : e < 5) (h1 : (-6) ≤ x) (h2 : x ≤ (-2)) (hx : (-2) - x = nI e) : cg_D yX3_errorCount wsX3_errorCount rmX3_errorCount [.inr (.inr (3, 0, 0, 0)), .inl (x)] M (some (.inl (M 15 e))) (M) := by
  refine cg_S_of (cc := cX3_errorCount) (maxL := 2) (ret := (some .int)) (ls0 := [some (.inr (.inr (3, 0, 0, 0))), some (.inl (x))]) RX3 rfl (by decide) rfl rfl (Nat.le_of_ble_eq_true rfl) (fun E C X => ?_)
  refine cr_iload_n (pc := 0) C dX3_errorCount_0 rfl ?_
  refine cr_dS (pc := 1) C (sp_isErr1 h1 h2) rfl gX3_errorCount_X3_isErrorCode rfl dX3_errorCount_1 hsX3_isErrorCode rfl ⟨rfl, rfl, Nat.le_of_ble_eq_true rfl, Nat.le_of_ble_eq_true rfl⟩ (Nat.le_of_ble_eq_true rfl) rfl ?_
  refine cr_if_ne_t (pc := 4) (tgt := 14) C dX3_errorCount_4 (by decide) (by decide) ?_
  refine cr_aload_n (pc := 14) C dX3_errorCount_14 rfl ?_
  refine cr_getr (pc := 15) (c := 3) (k := 3) C (by first | rfl | assumption | (simp [cg_ok]; omega)) rfl (by decide) rfl inX3_errorCount_X3 flX3_errorCount_30 dX3_errorCount_15 ?_
  refine cr_bipush (pc := 18) (v := (-2)) C dX3_errorCount_18 (by decide) ?_
  refine cr_iload_n (pc := 20) C dX3_errorCount_20 rfl ?_
  refine cr_isub (pc := 21) C dX3_errorCount_21 ?_
  rw [hx]
  refine cr_iaload (pc := 22) C rfl (by first | rfl | assumption | (simp [cg_ok]; omega)) (by omega) (by first | decide | omega) dX3_errorCount_22 ?_
  refine cr_ireturn (pc := 23) C X dX3_errorCount_23 ?_
  exact ⟨rfl, rfl⟩
set_option maxRecDepth 100000 in
set_option maxHeartbeats 4000000 in
theorem sp_errorCount0 {M : cg_M} {x : Int32} (h : ¬ ((-6) ≤ x ∧ x ≤ (-2))) : cg_D yX3_errorCount wsX3_errorCount rmX3_errorCount [.inr (.inr (3, 0, 0, 0)), .inl (x)] M (some (.inl (-2))) (cg_err M 0) := by
  refine cg_S_of (cc := cX3_errorCount) (maxL := 2) (ret := (some .int)) (ls0 := [some (.inr (.inr (3, 0, 0, 0))), some (.inl (x))]) RX3 rfl (by decide) rfl rfl (Nat.le_of_ble_eq_true rfl) (fun E C X => ?_)
  refine cr_iload_n (pc := 0) C dX3_errorCount_0 rfl ?_
  refine cr_dS (pc := 1) C (sp_isErr0 h) rfl gX3_errorCount_X3_isErrorCode rfl dX3_errorCount_1 hsX3_isErrorCode rfl ⟨rfl, rfl, Nat.le_of_ble_eq_true rfl, Nat.le_of_ble_eq_true rfl⟩ (Nat.le_of_ble_eq_true rfl) rfl ?_
  refine cr_if_ne_f (pc := 4) (tgt := 14) C dX3_errorCount_4 (by decide) (by decide) ?_
  refine cr_aload_n (pc := 7) C dX3_errorCount_7 rfl ?_
  refine cr_bipush (pc := 8) (v := (-2)) C dX3_errorCount_8 (by decide) ?_
  refine cr_dV (pc := 10) C (sp_counted1 (e := 0) (by decide) (by decide) (by decide) (by decide)) rfl gX3_errorCount_X3_counted rfl dX3_errorCount_10 (by first | rfl | assumption | (simp [cg_ok]; omega)) rfl hvX3_counted rfl ⟨rfl, rfl, Nat.le_of_ble_eq_true rfl, Nat.le_of_ble_eq_true rfl⟩ (Nat.le_of_ble_eq_true rfl) rfl ?_
  refine cr_ireturn (pc := 13) C X dX3_errorCount_13 ?_
  exact ⟨rfl, rfl⟩
set_option maxRecDepth 100000 in
set_option maxHeartbeats 4000000 in
theorem sp_undo0 {M : cg_M} (hz : M 14 2 = nI 0) : cg_D yX3_undo wsX3_undo rmX3_undo [.inr (.inr (3, 0, 0, 0))] M (some (.inl (-6))) (cg_err M 4) := by
  refine cg_S_of (cc := cX3_undo) (maxL := 1) (ret := (some .int)) (ls0 := [some (.inr (.inr (3, 0, 0, 0)))]) RX3 rfl (by decide) rfl rfl (Nat.le_of_ble_eq_true rfl) (fun E C X => ?_)
  refine cr_aload_n (pc := 0) C dX3_undo_0 rfl ?_
  refine cr_getr (pc := 1) (c := 3) (k := 1) C (by first | rfl | assumption | (simp [cg_ok]; omega)) rfl (by decide) rfl inX3_undo_X3 flX3_undo_19 dX3_undo_1 ?_
  refine cr_aload_n (pc := 4) C dX3_undo_4 rfl ?_
  refine cr_getr (pc := 5) (c := 3) (k := 0) C (by first | rfl | assumption | (simp [cg_ok]; omega)) rfl (by decide) rfl inX3_undo_X3 flX3_undo_12 dX3_undo_5 ?_
  refine cr_dV (pc := 8) C (sp_newest0 hz) rfl gX3_undo_X0_restoreNewest rfl dX3_undo_8 (by first | rfl | assumption | (simp [cg_ok]; omega)) rfl hvX0_restoreNewest rfl ⟨rfl, rfl, Nat.le_of_ble_eq_true rfl, Nat.le_of_ble_eq_true rfl⟩ (Nat.le_of_ble_eq_true rfl) rfl ?_
  refine cr_if_eq_t (pc := 11) (tgt := 24) C dX3_undo_11 (by decide) (by decide) ?_
  refine cr_aload_n (pc := 24) C dX3_undo_24 rfl ?_
  refine cr_bipush (pc := 25) (v := (-6)) C dX3_undo_25 (by decide) ?_
  refine cr_dV (pc := 27) C (sp_counted1 (e := 4) (by decide) (by decide) (by decide) (by decide)) rfl gX3_undo_X3_counted rfl dX3_undo_27 (by first | rfl | assumption | (simp [cg_ok]; omega)) rfl hvX3_counted rfl ⟨rfl, rfl, Nat.le_of_ble_eq_true rfl, Nat.le_of_ble_eq_true rfl⟩ (Nat.le_of_ble_eq_true rfl) rfl ?_
  refine cr_ireturn (pc := 30) C X dX3_undo_30 ?_
  exact ⟨rfl, rfl⟩
set_option maxRecDepth 100000 in
set_option maxHeartbeats 4000000 in
theorem sp_undo1 {M : cg_M} {f y : Nat} (hf5 : f < 5) (hf : M 14 1 = nI f) (hy : y < 4) (hz : M 14 2 = nI (y + 1)) : cg_D yX3_undo wsX3_undo rmX3_undo [.inr (.inr (3, 0, 0, 0))] M (some (.inl (nI y))) (cg_und M f y) := by
  refine cg_S_of (cc := cX3_undo) (maxL := 1) (ret := (some .int)) (ls0 := [some (.inr (.inr (3, 0, 0, 0)))]) RX3 rfl (by decide) rfl rfl (Nat.le_of_ble_eq_true rfl) (fun E C X => ?_)
  refine cr_aload_n (pc := 0) C dX3_undo_0 rfl ?_
  refine cr_getr (pc := 1) (c := 3) (k := 1) C (by first | rfl | assumption | (simp [cg_ok]; omega)) rfl (by decide) rfl inX3_undo_X3 flX3_undo_19 dX3_undo_1 ?_
  refine cr_aload_n (pc := 4) C dX3_undo_4 rfl ?_
  refine cr_getr (pc := 5) (c := 3) (k := 0) C (by first | rfl | assumption | (simp [cg_ok]; omega)) rfl (by decide) rfl inX3_undo_X3 flX3_undo_12 dX3_undo_5 ?_
  refine cr_dV (pc := 8) C (sp_newest1 hf5 hf hy hz) rfl gX3_undo_X0_restoreNewest rfl dX3_undo_8 (by first | rfl | assumption | (simp [cg_ok]; omega)) rfl hvX0_restoreNewest rfl ⟨rfl, rfl, Nat.le_of_ble_eq_true rfl, Nat.le_of_ble_eq_true rfl⟩ (Nat.le_of_ble_eq_true rfl) rfl ?_
  refine cr_if_eq_f (pc := 11) (tgt := 24) C dX3_undo_11 (by decide) (by decide) ?_
  refine cr_aload_n (pc := 14) C dX3_undo_14 rfl ?_
  refine cr_getr (pc := 15) (c := 3) (k := 1) C (by first | rfl | assumption | (simp [cg_ok]; omega)) rfl (by decide) rfl inX3_undo_X3 flX3_undo_19 dX3_undo_15 ?_
  refine cr_geti (pc := 18) (c := 0) (k := 2) C (by first | rfl | assumption | (simp [cg_ok]; omega)) rfl (by decide) rfl rfl inX3_undo_X0 flX3_undo_145 dX3_undo_18 ?_
  unfold cg_und
  rw [cg_cy_n (by decide), cg_up_s]
  refine cr_goto (pc := 21) (tgt := 30) C dX3_undo_21 (by decide) ?_
  refine cr_ireturn (pc := 30) C X dX3_undo_30 ?_
  exact ⟨rfl, rfl⟩
set_option maxRecDepth 100000 in
set_option maxHeartbeats 4000000 in
theorem sp_add0 {M : cg_M} {x : Int32} (hl : M 13 1 = nI 100) : cg_D yX1_add wsX1_add rmX1_add [.inr (.inr (1, 0, 0, 0)), .inl (x)] M (some (.inl (-4))) (M) := by
  refine cg_S_of (cc := cX1_add) (maxL := 2) (ret := (some .int)) (ls0 := [some (.inr (.inr (1, 0, 0, 0))), some (.inl (x))]) RX1 rfl (by decide) rfl rfl (Nat.le_of_ble_eq_true rfl) (fun E C X => ?_)
  refine cr_aload_n (pc := 0) C dX1_add_0 rfl ?_
  refine cr_geti (pc := 1) (c := 1) (k := 1) C (by first | rfl | assumption | (simp [cg_ok]; omega)) rfl (by decide) rfl rfl inX1_add_X1 flX1_add_15 dX1_add_1 ?_
  refine cr_bipush (pc := 4) (v := nI 100) C dX1_add_4 (by decide) ?_
  rw [hl]
  refine cr_icmp_lt_f (pc := 6) (tgt := 12) C dX1_add_6 (by decide) (by decide) ?_
  refine cr_bipush (pc := 9) (v := (-4)) C dX1_add_9 (by decide) ?_
  refine cr_ireturn (pc := 11) C X dX1_add_11 ?_
  exact ⟨rfl, rfl⟩
set_option maxRecDepth 100000 in
set_option maxHeartbeats 4000000 in
theorem sp_add1 {M : cg_M} {x : Int32} {n : Nat} (hn : n < 100) (hl : M 13 1 = nI n) : cg_D yX1_add wsX1_add rmX1_add [.inr (.inr (1, 0, 0, 0)), .inl (x)] M (some (.inl (nI (n + 1)))) (cg_up (cg_up M 10 n x) 13 1 (nI (n + 1))) := by
  refine cg_S_of (cc := cX1_add) (maxL := 2) (ret := (some .int)) (ls0 := [some (.inr (.inr (1, 0, 0, 0))), some (.inl (x))]) RX1 rfl (by decide) rfl rfl (Nat.le_of_ble_eq_true rfl) (fun E C X => ?_)
  refine cr_aload_n (pc := 0) C dX1_add_0 rfl ?_
  refine cr_geti (pc := 1) (c := 1) (k := 1) C (by first | rfl | assumption | (simp [cg_ok]; omega)) rfl (by decide) rfl rfl inX1_add_X1 flX1_add_15 dX1_add_1 ?_
  refine cr_bipush (pc := 4) (v := nI 100) C dX1_add_4 (by decide) ?_
  rw [hl]
  refine cr_icmp_lt_t (pc := 6) (tgt := 12) C dX1_add_6 (by decide) (nI_lt hn (by omega)) ?_
  refine cr_aload_n (pc := 12) C dX1_add_12 rfl ?_
  refine cr_getr (pc := 13) (c := 1) (k := 0) C (by first | rfl | assumption | (simp [cg_ok]; omega)) rfl (by decide) rfl inX1_add_X1 flX1_add_9 dX1_add_13 ?_
  refine cr_aload_n (pc := 16) C dX1_add_16 rfl ?_
  refine cr_geti (pc := 17) (c := 1) (k := 1) C (by first | rfl | assumption | (simp [cg_ok]; omega)) rfl (by decide) rfl rfl inX1_add_X1 flX1_add_15 dX1_add_17 ?_
  rw [hl]
  refine cr_iload_n (pc := 20) C dX1_add_20 rfl ?_
  refine cr_iastore (pc := 21) C rfl (by first | rfl | assumption | (simp [cg_ok]; omega)) (by omega) (by first | decide | omega) dX1_add_21 ?_
  refine cr_aload_n (pc := 22) C dX1_add_22 rfl ?_
  refine cr_dup (pc := 23) C dX1_add_23 rfl ?_
  refine cr_geti (pc := 24) (c := 1) (k := 1) C (by first | rfl | assumption | (simp [cg_ok]; omega)) rfl (by decide) rfl rfl inX1_add_X1 flX1_add_15 dX1_add_24 ?_
  rw [cg_up_n (by decide), hl]
  refine cr_iconst (pc := 27) (v := nI 1) C dX1_add_27 (by decide) ?_
  refine cr_iadd_n (pc := 28) C dX1_add_28 ?_
  refine cr_puti (pc := 29) (c := 1) (k := 1) C (by first | rfl | assumption | (simp [cg_ok]; omega)) rfl (by decide) rfl rfl inX1_add_X1 flX1_add_15 rfl (by first | rfl | decide) rfl dX1_add_29 ?_
  refine cr_aload_n (pc := 32) C dX1_add_32 rfl ?_
  refine cr_geti (pc := 33) (c := 1) (k := 1) C (by first | rfl | assumption | (simp [cg_ok]; omega)) rfl (by decide) rfl rfl inX1_add_X1 flX1_add_15 dX1_add_33 ?_
  rw [cg_up_s]
  refine cr_ireturn (pc := 36) C X dX1_add_36 ?_
  exact ⟨rfl, rfl⟩
set_option maxRecDepth 100000 in
set_option maxHeartbeats 4000000 in
theorem sp_append0 {M : cg_M} {x : Int32} (h : ¬ cg_in x 128) : cg_D yX3_append wsX3_append rmX3_append [.inr (.inr (3, 0, 0, 0)), .inl (x)] M (some (.inl (-2))) (cg_err M 0) := by
  refine cg_S_of (cc := cX3_append) (maxL := 2) (ret := (some .int)) (ls0 := [some (.inr (.inr (3, 0, 0, 0))), some (.inl (x))]) RX3 rfl (by decide) rfl rfl (Nat.le_of_ble_eq_true rfl) (fun E C X => ?_)
  refine cr_iload_n (pc := 0) C dX3_append_0 rfl ?_
  refine cr_sipush (pc := 1) (v := nI 128) C dX3_append_1 (by decide) ?_
  refine cr_dS (pc := 4) C (sp_isBelow0 h (by decide)) rfl gX3_append_X3_isBelow rfl dX3_append_4 hsX3_isBelow rfl ⟨rfl, rfl, Nat.le_of_ble_eq_true rfl, Nat.le_of_ble_eq_true rfl⟩ (Nat.le_of_ble_eq_true rfl) rfl ?_
  refine cr_if_ne_f (pc := 7) (tgt := 17) C dX3_append_7 (by decide) (by decide) ?_
  refine cr_aload_n (pc := 10) C dX3_append_10 rfl ?_
  refine cr_bipush (pc := 11) (v := (-2)) C dX3_append_11 (by decide) ?_
  refine cr_dV (pc := 13) C (sp_counted1 (e := 0) (by decide) (by decide) (by decide) (by decide)) rfl gX3_append_X3_counted rfl dX3_append_13 (by first | rfl | assumption | (simp [cg_ok]; omega)) rfl hvX3_counted rfl ⟨rfl, rfl, Nat.le_of_ble_eq_true rfl, Nat.le_of_ble_eq_true rfl⟩ (Nat.le_of_ble_eq_true rfl) rfl ?_
  refine cr_ireturn (pc := 16) C X dX3_append_16 ?_
  exact ⟨rfl, rfl⟩
set_option maxRecDepth 100000 in
set_option maxHeartbeats 4000000 in
theorem sp_append4 {M : cg_M} {v : Nat} (hv : v < 128) (hl : M 13 1 = nI 100) : cg_D yX3_append wsX3_append rmX3_append [.inr (.inr (3, 0, 0, 0)), .inl (nI v)] M (some (.inl (-4))) (cg_err M 2) := by
  refine cg_S_of (cc := cX3_append) (maxL := 2) (ret := (some .int)) (ls0 := [some (.inr (.inr (3, 0, 0, 0))), some (.inl (nI v))]) RX3 rfl (by decide) rfl rfl (Nat.le_of_ble_eq_true rfl) (fun E C X => ?_)
  refine cr_iload_n (pc := 0) C dX3_append_0 rfl ?_
  refine cr_sipush (pc := 1) (v := nI 128) C dX3_append_1 (by decide) ?_
  refine cr_dS (pc := 4) C (sp_isBelow1 hv (by decide)) rfl gX3_append_X3_isBelow rfl dX3_append_4 hsX3_isBelow rfl ⟨rfl, rfl, Nat.le_of_ble_eq_true rfl, Nat.le_of_ble_eq_true rfl⟩ (Nat.le_of_ble_eq_true rfl) rfl ?_
  refine cr_if_ne_t (pc := 7) (tgt := 17) C dX3_append_7 (by decide) (by decide) ?_
  refine cr_aload_n (pc := 17) C dX3_append_17 rfl ?_
  refine cr_aload_n (pc := 18) C dX3_append_18 rfl ?_
  refine cr_getr (pc := 19) (c := 3) (k := 2) C (by first | rfl | assumption | (simp [cg_ok]; omega)) rfl (by decide) rfl inX3_append_X3 flX3_append_26 dX3_append_19 ?_
  refine cr_iload_n (pc := 22) C dX3_append_22 rfl ?_
  refine cr_dV (pc := 23) C (sp_add0 hl) rfl gX3_append_X1_add rfl dX3_append_23 (by first | rfl | assumption | (simp [cg_ok]; omega)) rfl hvX1_add rfl ⟨rfl, rfl, Nat.le_of_ble_eq_true rfl, Nat.le_of_ble_eq_true rfl⟩ (Nat.le_of_ble_eq_true rfl) rfl ?_
  refine cr_dV (pc := 26) C (sp_counted1 (e := 2) (by decide) (by decide) (by decide) (by decide)) rfl gX3_append_X3_counted rfl dX3_append_26 (by first | rfl | assumption | (simp [cg_ok]; omega)) rfl hvX3_counted rfl ⟨rfl, rfl, Nat.le_of_ble_eq_true rfl, Nat.le_of_ble_eq_true rfl⟩ (Nat.le_of_ble_eq_true rfl) rfl ?_
  refine cr_ireturn (pc := 29) C X dX3_append_29 ?_
  exact ⟨rfl, rfl⟩
set_option maxRecDepth 100000 in
set_option maxHeartbeats 4000000 in
theorem sp_append1 {M : cg_M} {v n : Nat} (hv : v < 128) (hn : n < 100) (hl : M 13 1 = nI n) : cg_D yX3_append wsX3_append rmX3_append [.inr (.inr (3, 0, 0, 0)), .inl (nI v)] M (some (.inl (nI (n + 1)))) (cg_up (cg_up M 10 n (nI v)) 13 1 (nI (n + 1))) := by
  refine cg_S_of (cc := cX3_append) (maxL := 2) (ret := (some .int)) (ls0 := [some (.inr (.inr (3, 0, 0, 0))), some (.inl (nI v))]) RX3 rfl (by decide) rfl rfl (Nat.le_of_ble_eq_true rfl) (fun E C X => ?_)
  refine cr_iload_n (pc := 0) C dX3_append_0 rfl ?_
  refine cr_sipush (pc := 1) (v := nI 128) C dX3_append_1 (by decide) ?_
  refine cr_dS (pc := 4) C (sp_isBelow1 hv (by decide)) rfl gX3_append_X3_isBelow rfl dX3_append_4 hsX3_isBelow rfl ⟨rfl, rfl, Nat.le_of_ble_eq_true rfl, Nat.le_of_ble_eq_true rfl⟩ (Nat.le_of_ble_eq_true rfl) rfl ?_
  refine cr_if_ne_t (pc := 7) (tgt := 17) C dX3_append_7 (by decide) (by decide) ?_
  refine cr_aload_n (pc := 17) C dX3_append_17 rfl ?_
  refine cr_aload_n (pc := 18) C dX3_append_18 rfl ?_
  refine cr_getr (pc := 19) (c := 3) (k := 2) C (by first | rfl | assumption | (simp [cg_ok]; omega)) rfl (by decide) rfl inX3_append_X3 flX3_append_26 dX3_append_19 ?_
  refine cr_iload_n (pc := 22) C dX3_append_22 rfl ?_
  refine cr_dV (pc := 23) C (sp_add1 hn hl) rfl gX3_append_X1_add rfl dX3_append_23 (by first | rfl | assumption | (simp [cg_ok]; omega)) rfl hvX1_add rfl ⟨rfl, rfl, Nat.le_of_ble_eq_true rfl, Nat.le_of_ble_eq_true rfl⟩ (Nat.le_of_ble_eq_true rfl) rfl ?_
  refine cr_dV (pc := 26) C (sp_counted0 (fun q => nI_pos (n := n + 1) (by omega) (Int32.lt_of_le_of_lt q.2 (by decide)))) rfl gX3_append_X3_counted rfl dX3_append_26 (by first | rfl | assumption | (simp [cg_ok]; omega)) rfl hvX3_counted rfl ⟨rfl, rfl, Nat.le_of_ble_eq_true rfl, Nat.le_of_ble_eq_true rfl⟩ (Nat.le_of_ble_eq_true rfl) rfl ?_
  refine cr_ireturn (pc := 29) C X dX3_append_29 ?_
  exact ⟨rfl, rfl⟩
