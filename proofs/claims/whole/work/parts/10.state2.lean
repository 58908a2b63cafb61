/-! ===== State: more ===== -/
def cg_uR (P : Nat → Int32) (c s : Nat) : Nat := (if cg_cs P s (317 + 7 * c) then 0 else 1) + (if cg_cs P s (314 + 7 * c) then 0 else 2)
def cg_uW (P : Nat → Int32) (c r : Nat) : Nat := (if cg_cs P (2 ^ r) (314 + 7 * c) then 0 else 4) + (if cg_cs P (2 ^ r) (317 + 7 * c) then 0 else 8)
theorem cg_uR_lt (P : Nat → Int32) (c s : Nat) : cg_uR P c s < 16 := by unfold cg_uR; split <;> split <;> decide
theorem cg_uW_lt (P : Nat → Int32) (c s : Nat) : cg_uW P c s < 16 := by unfold cg_uW; split <;> split <;> decide
def cg_rA (P : Nat → Int32) (c s : Nat) : Bool := decide ((nI (cg_uR P c s) &&& P (313 + 7 * c)) = 0)
def cg_wA (P : Nat → Int32) (c r : Nat) : Bool := decide ((nI (cg_uW P c r) &&& P (313 + 7 * c)) = 0)
def cg_b1 (u g : Nat) (P : Nat → Int32) : Nat → Int32 := if Nat.testBit u g then upd P (341 + g) (P (341 + g) + nI 1) else P
def cg_cb (P : Nat → Int32) (u : Nat) : Nat → Int32 := cg_b1 u 3 (cg_b1 u 2 (cg_b1 u 1 (cg_b1 u 0 P)))
def cg_m1 (a b o : Nat) (P : Nat → Int32) : Nat → Int32 := upd P (b + o) (cg_mx (P (b + o)) (P (a + o)))
def cg_mg (a b : Nat) (P : Nat → Int32) : Nat → Int32 := cg_m1 a b 2 (cg_m1 a b 1 (cg_m1 a b 0 P))
def cg_f1 (c o : Nat) (q : Int32 × (Nat → Int32)) : Int32 × (Nat → Int32) := (q.1 + (q.2 (314 + 7 * c + o) + q.2 (317 + 7 * c + o)), upd (upd q.2 (314 + 7 * c + o) (nI 0)) (317 + 7 * c + o) (nI 0))
def cg_fg (c : Nat) (P : Nat → Int32) : Int32 × (Nat → Int32) := cg_f1 c 2 (cg_f1 c 1 (cg_f1 c 0 (nI 0, P)))
theorem cg_two3 {r : Nat} (h : r < 3) : 2 ^ r < 16 := by
  match r, h with
  | 0, _ => decide
  | 1, _ => decide
  | 2, _ => decide
  | r + 3, h => exact absurd h (by omega)
set_option maxRecDepth 100000 in
set_option maxHeartbeats 4000000 in
theorem sp_uR {M : cg_M} {P : Nat → Int32} {c s : Nat} (hc : c < 4) (hs : s < 16) : cg_D yX2_unmetByRead wsX2_unmetByRead rmX2_unmetByRead [.inr (.inr (0, 0, 0, 0)), .inl (nI c), .inl (nI s)] (cg_sb M 0 P) (some (.inl (nI (cg_uR P c s)))) ((cg_sb M 0 P)) := by
  cases h1 : cg_cs P s (317 + 7 * c) <;> cases h2 : cg_cs P s (314 + 7 * c)
  · refine cg_S_of (cc := cX2_unmetByRead) (maxL := 4) (ret := (some .int)) (ls0 := [some (.inr (.inr (0, 0, 0, 0))), some (.inl (nI c)), some (.inl (nI s)), none]) RX2 rfl (by decide) rfl rfl (Nat.le_of_ble_eq_true rfl) (fun E C X => ?_)
    refine cr_iconst (pc := 0) (v := nI 0) C dX2_unmetByRead_0 (by decide) ?_
    refine cr_istore_n3 (pc := 1) C dX2_unmetByRead_1 (by decide) rfl ?_
    refine cr_aload_n (pc := 2) C dX2_unmetByRead_2 rfl ?_
    refine cr_iload_n (pc := 3) C dX2_unmetByRead_3 rfl ?_
    refine cr_aload_n (pc := 4) C dX2_unmetByRead_4 rfl ?_
    refine cr_getr (pc := 5) (c := 2) (k := 10) C (by first | rfl | assumption | (simp [cg_ok]; omega)) rfl (by decide) rfl inX2_unmetByRead_X2 flX2_unmetByRead_45 dX2_unmetByRead_5 ?_
    refine cr_iload_n (pc := 8) C dX2_unmetByRead_8 rfl ?_
    refine cr_aaload (pc := 9) C rfl (by first | rfl | assumption | (simp [cg_ok]; omega)) (by omega) (by first | decide | omega) dX2_unmetByRead_9 ?_
    refine cr_dV (pc := 10) C (sp_covers hs (by simp [cg_ok]; omega) rfl) rfl gX2_unmetByRead_X2_covers rfl dX2_unmetByRead_10 (by first | rfl | assumption | (simp [cg_ok]; omega)) rfl hvX2_covers rfl ⟨rfl, rfl, Nat.le_of_ble_eq_true rfl, Nat.le_of_ble_eq_true rfl⟩ (Nat.le_of_ble_eq_true rfl) rfl ?_
    rw [h1]
    refine cr_if_ne_f (pc := 13) (tgt := 20) C dX2_unmetByRead_13 (by decide) (by decide) ?_
    refine cr_iload_n (pc := 16) C dX2_unmetByRead_16 rfl ?_
    refine cr_iconst (pc := 17) (v := nI 1) C dX2_unmetByRead_17 (by decide) ?_
    refine cr_ior (pc := 18) C dX2_unmetByRead_18 ?_
    refine cr_istore_n3 (pc := 19) C dX2_unmetByRead_19 (by decide) rfl ?_
    refine cr_aload_n (pc := 20) C dX2_unmetByRead_20 rfl ?_
    refine cr_iload_n (pc := 21) C dX2_unmetByRead_21 rfl ?_
    refine cr_aload_n (pc := 22) C dX2_unmetByRead_22 rfl ?_
    refine cr_getr (pc := 23) (c := 2) (k := 9) C (by first | rfl | assumption | (simp [cg_ok]; omega)) rfl (by decide) rfl inX2_unmetByRead_X2 flX2_unmetByRead_42 dX2_unmetByRead_23 ?_
    refine cr_iload_n (pc := 26) C dX2_unmetByRead_26 rfl ?_
    refine cr_aaload (pc := 27) C rfl (by first | rfl | assumption | (simp [cg_ok]; omega)) (by omega) (by first | decide | omega) dX2_unmetByRead_27 ?_
    refine cr_dV (pc := 28) C (sp_covers hs (by simp [cg_ok]; omega) rfl) rfl gX2_unmetByRead_X2_covers rfl dX2_unmetByRead_28 (by first | rfl | assumption | (simp [cg_ok]; omega)) rfl hvX2_covers rfl ⟨rfl, rfl, Nat.le_of_ble_eq_true rfl, Nat.le_of_ble_eq_true rfl⟩ (Nat.le_of_ble_eq_true rfl) rfl ?_
    rw [h2]
    refine cr_if_ne_f (pc := 31) (tgt := 38) C dX2_unmetByRead_31 (by decide) (by decide) ?_
    refine cr_iload_n (pc := 34) C dX2_unmetByRead_34 rfl ?_
    refine cr_iconst (pc := 35) (v := nI 2) C dX2_unmetByRead_35 (by decide) ?_
    refine cr_ior (pc := 36) C dX2_unmetByRead_36 ?_
    refine cr_istore_n3 (pc := 37) C dX2_unmetByRead_37 (by decide) rfl ?_
    refine cr_iload_n (pc := 38) C dX2_unmetByRead_38 rfl ?_
    refine cr_ireturn (pc := 39) C X dX2_unmetByRead_39 ?_
    exact ⟨by unfold cg_uR; rw [h1, h2]; rfl, rfl⟩
  · refine cg_S_of (cc := cX2_unmetByRead) (maxL := 4) (ret := (some .int)) (ls0 := [some (.inr (.inr (0, 0, 0, 0))), some (.inl (nI c)), some (.inl (nI s)), none]) RX2 rfl (by decide) rfl rfl (Nat.le_of_ble_eq_true rfl) (fun E C X => ?_)
    refine cr_iconst (pc := 0) (v := nI 0) C dX2_unmetByRead_0 (by decide) ?_
    refine cr_istore_n3 (pc := 1) C dX2_unmetByRead_1 (by decide) rfl ?_
    refine cr_aload_n (pc := 2) C dX2_unmetByRead_2 rfl ?_
    refine cr_iload_n (pc := 3) C dX2_unmetByRead_3 rfl ?_
    refine cr_aload_n (pc := 4) C dX2_unmetByRead_4 rfl ?_
    refine cr_getr (pc := 5) (c := 2) (k := 10) C (by first | rfl | assumption | (simp [cg_ok]; omega)) rfl (by decide) rfl inX2_unmetByRead_X2 flX2_unmetByRead_45 dX2_unmetByRead_5 ?_
    refine cr_iload_n (pc := 8) C dX2_unmetByRead_8 rfl ?_
    refine cr_aaload (pc := 9) C rfl (by first | rfl | assumption | (simp [cg_ok]; omega)) (by omega) (by first | decide | omega) dX2_unmetByRead_9 ?_
    refine cr_dV (pc := 10) C (sp_covers hs (by simp [cg_ok]; omega) rfl) rfl gX2_unmetByRead_X2_covers rfl dX2_unmetByRead_10 (by first | rfl | assumption | (simp [cg_ok]; omega)) rfl hvX2_covers rfl ⟨rfl, rfl, Nat.le_of_ble_eq_true rfl, Nat.le_of_ble_eq_true rfl⟩ (Nat.le_of_ble_eq_true rfl) rfl ?_
    rw [h1]
    refine cr_if_ne_f (pc := 13) (tgt := 20) C dX2_unmetByRead_13 (by decide) (by decide) ?_
    refine cr_iload_n (pc := 16) C dX2_unmetByRead_16 rfl ?_
    refine cr_iconst (pc := 17) (v := nI 1) C dX2_unmetByRead_17 (by decide) ?_
    refine cr_ior (pc := 18) C dX2_unmetByRead_18 ?_
    refine cr_istore_n3 (pc := 19) C dX2_unmetByRead_19 (by decide) rfl ?_
    refine cr_aload_n (pc := 20) C dX2_unmetByRead_20 rfl ?_
    refine cr_iload_n (pc := 21) C dX2_unmetByRead_21 rfl ?_
    refine cr_aload_n (pc := 22) C dX2_unmetByRead_22 rfl ?_
    refine cr_getr (pc := 23) (c := 2) (k := 9) C (by first | rfl | assumption | (simp [cg_ok]; omega)) rfl (by decide) rfl inX2_unmetByRead_X2 flX2_unmetByRead_42 dX2_unmetByRead_23 ?_
    refine cr_iload_n (pc := 26) C dX2_unmetByRead_26 rfl ?_
    refine cr_aaload (pc := 27) C rfl (by first | rfl | assumption | (simp [cg_ok]; omega)) (by omega) (by first | decide | omega) dX2_unmetByRead_27 ?_
    refine cr_dV (pc := 28) C (sp_covers hs (by simp [cg_ok]; omega) rfl) rfl gX2_unmetByRead_X2_covers rfl dX2_unmetByRead_28 (by first | rfl | assumption | (simp [cg_ok]; omega)) rfl hvX2_covers rfl ⟨rfl, rfl, Nat.le_of_ble_eq_true rfl, Nat.le_of_ble_eq_true rfl⟩ (Nat.le_of_ble_eq_true rfl) rfl ?_
    rw [h2]
    refine cr_if_ne_t (pc := 31) (tgt := 38) C dX2_unmetByRead_31 (by decide) (by decide) ?_
    refine cr_iload_n (pc := 38) C dX2_unmetByRead_38 rfl ?_
    refine cr_ireturn (pc := 39) C X dX2_unmetByRead_39 ?_
    exact ⟨by unfold cg_uR; rw [h1, h2]; rfl, rfl⟩
  · refine cg_S_of (cc := cX2_unmetByRead) (maxL := 4) (ret := (some .int)) (ls0 := [some (.inr (.inr (0, 0, 0, 0))), some (.inl (nI c)), some (.inl (nI s)), none]) RX2 rfl (by decide) rfl rfl (Nat.le_of_ble_eq_true rfl) (fun E C X => ?_)
    refine cr_iconst (pc := 0) (v := nI 0) C dX2_unmetByRead_0 (by decide) ?_
    refine cr_istore_n3 (pc := 1) C dX2_unmetByRead_1 (by decide) rfl ?_
    refine cr_aload_n (pc := 2) C dX2_unmetByRead_2 rfl ?_
    refine cr_iload_n (pc := 3) C dX2_unmetByRead_3 rfl ?_
    refine cr_aload_n (pc := 4) C dX2_unmetByRead_4 rfl ?_
    refine cr_getr (pc := 5) (c := 2) (k := 10) C (by first | rfl | assumption | (simp [cg_ok]; omega)) rfl (by decide) rfl inX2_unmetByRead_X2 flX2_unmetByRead_45 dX2_unmetByRead_5 ?_
    refine cr_iload_n (pc := 8) C dX2_unmetByRead_8 rfl ?_
    refine cr_aaload (pc := 9) C rfl (by first | rfl | assumption | (simp [cg_ok]; omega)) (by omega) (by first | decide | omega) dX2_unmetByRead_9 ?_
    refine cr_dV (pc := 10) C (sp_covers hs (by simp [cg_ok]; omega) rfl) rfl gX2_unmetByRead_X2_covers rfl dX2_unmetByRead_10 (by first | rfl | assumption | (simp [cg_ok]; omega)) rfl hvX2_covers rfl ⟨rfl, rfl, Nat.le_of_ble_eq_true rfl, Nat.le_of_ble_eq_true rfl⟩ (Nat.le_of_ble_eq_true rfl) rfl ?_
    rw [h1]
    refine cr_if_ne_t (pc := 13) (tgt := 20) C dX2_unmetByRead_13 (by decide) (by decide) ?_
    refine cr_aload_n (pc := 20) C dX2_unmetByRead_20 rfl ?_
    refine cr_iload_n (pc := 21) C dX2_unmetByRead_21 rfl ?_
    refine cr_aload_n (pc := 22) C dX2_unmetByRead_22 rfl ?_
    refine cr_getr (pc := 23) (c := 2) (k := 9) C (by first | rfl | assumption | (simp [cg_ok]; omega)) rfl (by decide) rfl inX2_unmetByRead_X2 flX2_unmetByRead_42 dX2_unmetByRead_23 ?_
    refine cr_iload_n (pc := 26) C dX2_unmetByRead_26 rfl ?_
    refine cr_aaload (pc := 27) C rfl (by first | rfl | assumption | (simp [cg_ok]; omega)) (by omega) (by first | decide | omega) dX2_unmetByRead_27 ?_
    refine cr_dV (pc := 28) C (sp_covers hs (by simp [cg_ok]; omega) rfl) rfl gX2_unmetByRead_X2_covers rfl dX2_unmetByRead_28 (by first | rfl | assumption | (simp [cg_ok]; omega)) rfl hvX2_covers rfl ⟨rfl, rfl, Nat.le_of_ble_eq_true rfl, Nat.le_of_ble_eq_true rfl⟩ (Nat.le_of_ble_eq_true rfl) rfl ?_
    rw [h2]
    refine cr_if_ne_f (pc := 31) (tgt := 38) C dX2_unmetByRead_31 (by decide) (by decide) ?_
    refine cr_iload_n (pc := 34) C dX2_unmetByRead_34 rfl ?_
    refine cr_iconst (pc := 35) (v := nI 2) C dX2_unmetByRead_35 (by decide) ?_
    refine cr_ior (pc := 36) C dX2_unmetByRead_36 ?_
    refine cr_istore_n3 (pc := 37) C dX2_unmetByRead_37 (by decide) rfl ?_
    refine cr_iload_n (pc := 38) C dX2_unmetByRead_38 rfl ?_
    refine cr_ireturn (pc := 39) C X dX2_unmetByRead_39 ?_
    exact ⟨by unfold cg_uR; rw [h1, h2]; rfl, rfl⟩
  · refine cg_S_of (cc := cX2_unmetByRead) (maxL := 4) (ret := (some .int)) (ls0 := [some (.inr (.inr (0, 0, 0, 0))), some (.inl (nI c)), some (.inl (nI s)), none]) RX2 rfl (by decide) rfl rfl (Nat.le_of_ble_eq_true rfl) (fun E C X => ?_)
    refine cr_iconst (pc := 0) (v := nI 0) C dX2_unmetByRead_0 (by decide) ?_
    refine cr_istore_n3 (pc := 1) C dX2_unmetByRead_1 (by decide) rfl ?_
    refine cr_aload_n (pc := 2) C dX2_unmetByRead_2 rfl ?_
    refine cr_iload_n (pc := 3) C dX2_unmetByRead_3 rfl ?_
    refine cr_aload_n (pc := 4) C dX2_unmetByRead_4 rfl ?_
    refine cr_getr (pc := 5) (c := 2) (k := 10) C (by first | rfl | assumption | (simp [cg_ok]; omega)) rfl (by decide) rfl inX2_unmetByRead_X2 flX2_unmetByRead_45 dX2_unmetByRead_5 ?_
    refine cr_iload_n (pc := 8) C dX2_unmetByRead_8 rfl ?_
    refine cr_aaload (pc := 9) C rfl (by first | rfl | assumption | (simp [cg_ok]; omega)) (by omega) (by first | decide | omega) dX2_unmetByRead_9 ?_
    refine cr_dV (pc := 10) C (sp_covers hs (by simp [cg_ok]; omega) rfl) rfl gX2_unmetByRead_X2_covers rfl dX2_unmetByRead_10 (by first | rfl | assumption | (simp [cg_ok]; omega)) rfl hvX2_covers rfl ⟨rfl, rfl, Nat.le_of_ble_eq_true rfl, Nat.le_of_ble_eq_true rfl⟩ (Nat.le_of_ble_eq_true rfl) rfl ?_
    rw [h1]
    refine cr_if_ne_t (pc := 13) (tgt := 20) C dX2_unmetByRead_13 (by decide) (by decide) ?_
    refine cr_aload_n (pc := 20) C dX2_unmetByRead_20 rfl ?_
    refine cr_iload_n (pc := 21) C dX2_unmetByRead_21 rfl ?_
    refine cr_aload_n (pc := 22) C dX2_unmetByRead_22 rfl ?_
    refine cr_getr (pc := 23) (c := 2) (k := 9) C (by first | rfl | assumption | (simp [cg_ok]; omega)) rfl (by decide) rfl inX2_unmetByRead_X2 flX2_unmetByRead_42 dX2_unmetByRead_23 ?_
    refine cr_iload_n (pc := 26) C dX2_unmetByRead_26 rfl ?_
    refine cr_aaload (pc := 27) C rfl (by first | rfl | assumption | (simp [cg_ok]; omega)) (by omega) (by first | decide | omega) dX2_unmetByRead_27 ?_
    refine cr_dV (pc := 28) C (sp_covers hs (by simp [cg_ok]; omega) rfl) rfl gX2_unmetByRead_X2_covers rfl dX2_unmetByRead_28 (by first | rfl | assumption | (simp [cg_ok]; omega)) rfl hvX2_covers rfl ⟨rfl, rfl, Nat.le_of_ble_eq_true rfl, Nat.le_of_ble_eq_true rfl⟩ (Nat.le_of_ble_eq_true rfl) rfl ?_
    rw [h2]
    refine cr_if_ne_t (pc := 31) (tgt := 38) C dX2_unmetByRead_31 (by decide) (by decide) ?_
    refine cr_iload_n (pc := 38) C dX2_unmetByRead_38 rfl ?_
    refine cr_ireturn (pc := 39) C X dX2_unmetByRead_39 ?_
    exact ⟨by unfold cg_uR; rw [h1, h2]; rfl, rfl⟩
set_option maxRecDepth 100000 in
set_option maxHeartbeats 4000000 in
theorem sp_uW {M : cg_M} {P : Nat → Int32} {c r : Nat} (hc : c < 4) (hr : r < 3) : cg_D yX2_unmetByWrite wsX2_unmetByWrite rmX2_unmetByWrite [.inr (.inr (0, 0, 0, 0)), .inl (nI c), .inl (nI r)] (cg_sb M 0 P) (some (.inl (nI (cg_uW P c r)))) ((cg_sb M 0 P)) := by
  cases h1 : cg_cs P (2 ^ r) (314 + 7 * c) <;> cases h2 : cg_cs P (2 ^ r) (317 + 7 * c)
  · refine cg_S_of (cc := cX2_unmetByWrite) (maxL := 4) (ret := (some .int)) (ls0 := [some (.inr (.inr (0, 0, 0, 0))), some (.inl (nI c)), some (.inl (nI r)), none]) RX2 rfl (by decide) rfl rfl (Nat.le_of_ble_eq_true rfl) (fun E C X => ?_)
    refine cr_iconst (pc := 0) (v := nI 0) C dX2_unmetByWrite_0 (by decide) ?_
    refine cr_istore_n3 (pc := 1) C dX2_unmetByWrite_1 (by decide) rfl ?_
    refine cr_aload_n (pc := 2) C dX2_unmetByWrite_2 rfl ?_
    refine cr_iload_n (pc := 3) C dX2_unmetByWrite_3 rfl ?_
    refine cr_dN (pc := 4) C (sp_only hr) rfl gX2_unmetByWrite_X3_only_n73 rfl dX2_unmetByWrite_4 neX3_only isX2_unmetByWrite_X3_only hsX3_only rfl ⟨rfl, rfl, Nat.le_of_ble_eq_true rfl, Nat.le_of_ble_eq_true rfl⟩ (Nat.le_of_ble_eq_true rfl) rfl ?_
    refine cr_aload_n (pc := 7) C dX2_unmetByWrite_7 rfl ?_
    refine cr_getr (pc := 8) (c := 2) (k := 9) C (by first | rfl | assumption | (simp [cg_ok]; omega)) rfl (by decide) rfl inX2_unmetByWrite_X2 flX2_unmetByWrite_42 dX2_unmetByWrite_8 ?_
    refine cr_iload_n (pc := 11) C dX2_unmetByWrite_11 rfl ?_
    refine cr_aaload (pc := 12) C rfl (by first | rfl | assumption | (simp [cg_ok]; omega)) (by omega) (by first | decide | omega) dX2_unmetByWrite_12 ?_
    refine cr_dV (pc := 13) C (sp_covers (cg_two3 hr) (by simp [cg_ok]; omega) rfl) rfl gX2_unmetByWrite_X2_covers rfl dX2_unmetByWrite_13 (by first | rfl | assumption | (simp [cg_ok]; omega)) rfl hvX2_covers rfl ⟨rfl, rfl, Nat.le_of_ble_eq_true rfl, Nat.le_of_ble_eq_true rfl⟩ (Nat.le_of_ble_eq_true rfl) rfl ?_
    rw [h1]
    refine cr_if_ne_f (pc := 16) (tgt := 23) C dX2_unmetByWrite_16 (by decide) (by decide) ?_
    refine cr_iload_n (pc := 19) C dX2_unmetByWrite_19 rfl ?_
    refine cr_iconst (pc := 20) (v := nI 4) C dX2_unmetByWrite_20 (by decide) ?_
    refine cr_ior (pc := 21) C dX2_unmetByWrite_21 ?_
    refine cr_istore_n3 (pc := 22) C dX2_unmetByWrite_22 (by decide) rfl ?_
    refine cr_aload_n (pc := 23) C dX2_unmetByWrite_23 rfl ?_
    refine cr_iload_n (pc := 24) C dX2_unmetByWrite_24 rfl ?_
    refine cr_dN (pc := 25) C (sp_only hr) rfl gX2_unmetByWrite_X3_only_n73 rfl dX2_unmetByWrite_25 neX3_only isX2_unmetByWrite_X3_only hsX3_only rfl ⟨rfl, rfl, Nat.le_of_ble_eq_true rfl, Nat.le_of_ble_eq_true rfl⟩ (Nat.le_of_ble_eq_true rfl) rfl ?_
    refine cr_aload_n (pc := 28) C dX2_unmetByWrite_28 rfl ?_
    refine cr_getr (pc := 29) (c := 2) (k := 10) C (by first | rfl | assumption | (simp [cg_ok]; omega)) rfl (by decide) rfl inX2_unmetByWrite_X2 flX2_unmetByWrite_45 dX2_unmetByWrite_29 ?_
    refine cr_iload_n (pc := 32) C dX2_unmetByWrite_32 rfl ?_
    refine cr_aaload (pc := 33) C rfl (by first | rfl | assumption | (simp [cg_ok]; omega)) (by omega) (by first | decide | omega) dX2_unmetByWrite_33 ?_
    refine cr_dV (pc := 34) C (sp_covers (cg_two3 hr) (by simp [cg_ok]; omega) rfl) rfl gX2_unmetByWrite_X2_covers rfl dX2_unmetByWrite_34 (by first | rfl | assumption | (simp [cg_ok]; omega)) rfl hvX2_covers rfl ⟨rfl, rfl, Nat.le_of_ble_eq_true rfl, Nat.le_of_ble_eq_true rfl⟩ (Nat.le_of_ble_eq_true rfl) rfl ?_
    rw [h2]
    refine cr_if_ne_f (pc := 37) (tgt := 45) C dX2_unmetByWrite_37 (by decide) (by decide) ?_
    refine cr_iload_n (pc := 40) C dX2_unmetByWrite_40 rfl ?_
    refine cr_bipush (pc := 41) (v := nI 8) C dX2_unmetByWrite_41 (by decide) ?_
    refine cr_ior (pc := 43) C dX2_unmetByWrite_43 ?_
    refine cr_istore_n3 (pc := 44) C dX2_unmetByWrite_44 (by decide) rfl ?_
    refine cr_iload_n (pc := 45) C dX2_unmetByWrite_45 rfl ?_
    refine cr_ireturn (pc := 46) C X dX2_unmetByWrite_46 ?_
    exact ⟨by unfold cg_uW; rw [h1, h2]; rfl, rfl⟩
  · refine cg_S_of (cc := cX2_unmetByWrite) (maxL := 4) (ret := (some .int)) (ls0 := [some (.inr (.inr (0, 0, 0, 0))), some (.inl (nI c)), some (.inl (nI r)), none]) RX2 rfl (by decide) rfl rfl (Nat.le_of_ble_eq_true rfl) (fun E C X => ?_)
    refine cr_iconst (pc := 0) (v := nI 0) C dX2_unmetByWrite_0 (by decide) ?_
    refine cr_istore_n3 (pc := 1) C dX2_unmetByWrite_1 (by decide) rfl ?_
    refine cr_aload_n (pc := 2) C dX2_unmetByWrite_2 rfl ?_
    refine cr_iload_n (pc := 3) C dX2_unmetByWrite_3 rfl ?_
    refine cr_dN (pc := 4) C (sp_only hr) rfl gX2_unmetByWrite_X3_only_n73 rfl dX2_unmetByWrite_4 neX3_only isX2_unmetByWrite_X3_only hsX3_only rfl ⟨rfl, rfl, Nat.le_of_ble_eq_true rfl, Nat.le_of_ble_eq_true rfl⟩ (Nat.le_of_ble_eq_true rfl) rfl ?_
    refine cr_aload_n (pc := 7) C dX2_unmetByWrite_7 rfl ?_
    refine cr_getr (pc := 8) (c := 2) (k := 9) C (by first | rfl | assumption | (simp [cg_ok]; omega)) rfl (by decide) rfl inX2_unmetByWrite_X2 flX2_unmetByWrite_42 dX2_unmetByWrite_8 ?_
    refine cr_iload_n (pc := 11) C dX2_unmetByWrite_11 rfl ?_
    refine cr_aaload (pc := 12) C rfl (by first | rfl | assumption | (simp [cg_ok]; omega)) (by omega) (by first | decide | omega) dX2_unmetByWrite_12 ?_
    refine cr_dV (pc := 13) C (sp_covers (cg_two3 hr) (by simp [cg_ok]; omega) rfl) rfl gX2_unmetByWrite_X2_covers rfl dX2_unmetByWrite_13 (by first | rfl | assumption | (simp [cg_ok]; omega)) rfl hvX2_covers rfl ⟨rfl, rfl, Nat.le_of_ble_eq_true rfl, Nat.le_of_ble_eq_true rfl⟩ (Nat.le_of_ble_eq_true rfl) rfl ?_
    rw [h1]
    refine cr_if_ne_f (pc := 16) (tgt := 23) C dX2_unmetByWrite_16 (by decide) (by decide) ?_
    refine cr_iload_n (pc := 19) C dX2_unmetByWrite_19 rfl ?_
    refine cr_iconst (pc := 20) (v := nI 4) C dX2_unmetByWrite_20 (by decide) ?_
    refine cr_ior (pc := 21) C dX2_unmetByWrite_21 ?_
    refine cr_istore_n3 (pc := 22) C dX2_unmetByWrite_22 (by decide) rfl ?_
    refine cr_aload_n (pc := 23) C dX2_unmetByWrite_23 rfl ?_
    refine cr_iload_n (pc := 24) C dX2_unmetByWrite_24 rfl ?_
    refine cr_dN (pc := 25) C (sp_only hr) rfl gX2_unmetByWrite_X3_only_n73 rfl dX2_unmetByWrite_25 neX3_only isX2_unmetByWrite_X3_only hsX3_only rfl ⟨rfl, rfl, Nat.le_of_ble_eq_true rfl, Nat.le_of_ble_eq_true rfl⟩ (Nat.le_of_ble_eq_true rfl) rfl ?_
    refine cr_aload_n (pc := 28) C dX2_unmetByWrite_28 rfl ?_
    refine cr_getr (pc := 29) (c := 2) (k := 10) C (by first | rfl | assumption | (simp [cg_ok]; omega)) rfl (by decide) rfl inX2_unmetByWrite_X2 flX2_unmetByWrite_45 dX2_unmetByWrite_29 ?_
    refine cr_iload_n (pc := 32) C dX2_unmetByWrite_32 rfl ?_
    refine cr_aaload (pc := 33) C rfl (by first | rfl | assumption | (simp [cg_ok]; omega)) (by omega) (by first | decide | omega) dX2_unmetByWrite_33 ?_
    refine cr_dV (pc := 34) C (sp_covers (cg_two3 hr) (by simp [cg_ok]; omega) rfl) rfl gX2_unmetByWrite_X2_covers rfl dX2_unmetByWrite_34 (by first | rfl | assumption | (simp [cg_ok]; omega)) rfl hvX2_covers rfl ⟨rfl, rfl, Nat.le_of_ble_eq_true rfl, Nat.le_of_ble_eq_true rfl⟩ (Nat.le_of_ble_eq_true rfl) rfl ?_
    rw [h2]
    refine cr_if_ne_t (pc := 37) (tgt := 45) C dX2_unmetByWrite_37 (by decide) (by decide) ?_
    refine cr_iload_n (pc := 45) C dX2_unmetByWrite_45 rfl ?_
    refine cr_ireturn (pc := 46) C X dX2_unmetByWrite_46 ?_
    exact ⟨by unfold cg_uW; rw [h1, h2]; rfl, rfl⟩
  · refine cg_S_of (cc := cX2_unmetByWrite) (maxL := 4) (ret := (some .int)) (ls0 := [some (.inr (.inr (0, 0, 0, 0))), some (.inl (nI c)), some (.inl (nI r)), none]) RX2 rfl (by decide) rfl rfl (Nat.le_of_ble_eq_true rfl) (fun E C X => ?_)
    refine cr_iconst (pc := 0) (v := nI 0) C dX2_unmetByWrite_0 (by decide) ?_
    refine cr_istore_n3 (pc := 1) C dX2_unmetByWrite_1 (by decide) rfl ?_
    refine cr_aload_n (pc := 2) C dX2_unmetByWrite_2 rfl ?_
    refine cr_iload_n (pc := 3) C dX2_unmetByWrite_3 rfl ?_
    refine cr_dN (pc := 4) C (sp_only hr) rfl gX2_unmetByWrite_X3_only_n73 rfl dX2_unmetByWrite_4 neX3_only isX2_unmetByWrite_X3_only hsX3_only rfl ⟨rfl, rfl, Nat.le_of_ble_eq_true rfl, Nat.le_of_ble_eq_true rfl⟩ (Nat.le_of_ble_eq_true rfl) rfl ?_
    refine cr_aload_n (pc := 7) C dX2_unmetByWrite_7 rfl ?_
    refine cr_getr (pc := 8) (c := 2) (k := 9) C (by first | rfl | assumption | (simp [cg_ok]; omega)) rfl (by decide) rfl inX2_unmetByWrite_X2 flX2_unmetByWrite_42 dX2_unmetByWrite_8 ?_
    refine cr_iload_n (pc := 11) C dX2_unmetByWrite_11 rfl ?_
    refine cr_aaload (pc := 12) C rfl (by first | rfl | assumption | (simp [cg_ok]; omega)) (by omega) (by first | decide | omega) dX2_unmetByWrite_12 ?_
    refine cr_dV (pc := 13) C (sp_covers (cg_two3 hr) (by simp [cg_ok]; omega) rfl) rfl gX2_unmetByWrite_X2_covers rfl dX2_unmetByWrite_13 (by first | rfl | assumption | (simp [cg_ok]; omega)) rfl hvX2_covers rfl ⟨rfl, rfl, Nat.le_of_ble_eq_true rfl, Nat.le_of_ble_eq_true rfl⟩ (Nat.le_of_ble_eq_true rfl) rfl ?_
    rw [h1]
    refine cr_if_ne_t (pc := 16) (tgt := 23) C dX2_unmetByWrite_16 (by decide) (by decide) ?_
    refine cr_aload_n (pc := 23) C dX2_unmetByWrite_23 rfl ?_
    refine cr_iload_n (pc := 24) C dX2_unmetByWrite_24 rfl ?_
    refine cr_dN (pc := 25) C (sp_only hr) rfl gX2_unmetByWrite_X3_only_n73 rfl dX2_unmetByWrite_25 neX3_only isX2_unmetByWrite_X3_only hsX3_only rfl ⟨rfl, rfl, Nat.le_of_ble_eq_true rfl, Nat.le_of_ble_eq_true rfl⟩ (Nat.le_of_ble_eq_true rfl) rfl ?_
    refine cr_aload_n (pc := 28) C dX2_unmetByWrite_28 rfl ?_
    refine cr_getr (pc := 29) (c := 2) (k := 10) C (by first | rfl | assumption | (simp [cg_ok]; omega)) rfl (by decide) rfl inX2_unmetByWrite_X2 flX2_unmetByWrite_45 dX2_unmetByWrite_29 ?_
    refine cr_iload_n (pc := 32) C dX2_unmetByWrite_32 rfl ?_
    refine cr_aaload (pc := 33) C rfl (by first | rfl | assumption | (simp [cg_ok]; omega)) (by omega) (by first | decide | omega) dX2_unmetByWrite_33 ?_
    refine cr_dV (pc := 34) C (sp_covers (cg_two3 hr) (by simp [cg_ok]; omega) rfl) rfl gX2_unmetByWrite_X2_covers rfl dX2_unmetByWrite_34 (by first | rfl | assumption | (simp [cg_ok]; omega)) rfl hvX2_covers rfl ⟨rfl, rfl, Nat.le_of_ble_eq_true rfl, Nat.le_of_ble_eq_true rfl⟩ (Nat.le_of_ble_eq_true rfl) rfl ?_
    rw [h2]
    refine cr_if_ne_f (pc := 37) (tgt := 45) C dX2_unmetByWrite_37 (by decide) (by decide) ?_
    refine cr_iload_n (pc := 40) C dX2_unmetByWrite_40 rfl ?_
    refine cr_bipush (pc := 41) (v := nI 8) C dX2_unmetByWrite_41 (by decide) ?_
    refine cr_ior (pc := 43) C dX2_unmetByWrite_43 ?_
    refine cr_istore_n3 (pc := 44) C dX2_unmetByWrite_44 (by decide) rfl ?_
    refine cr_iload_n (pc := 45) C dX2_unmetByWrite_45 rfl ?_
    refine cr_ireturn (pc := 46) C X dX2_unmetByWrite_46 ?_
    exact ⟨by unfold cg_uW; rw [h1, h2]; rfl, rfl⟩
  · refine cg_S_of (cc := cX2_unmetByWrite) (maxL := 4) (ret := (some .int)) (ls0 := [some (.inr (.inr (0, 0, 0, 0))), some (.inl (nI c)), some (.inl (nI r)), none]) RX2 rfl (by decide) rfl rfl (Nat.le_of_ble_eq_true rfl) (fun E C X => ?_)
    refine cr_iconst (pc := 0) (v := nI 0) C dX2_unmetByWrite_0 (by decide) ?_
    refine cr_istore_n3 (pc := 1) C dX2_unmetByWrite_1 (by decide) rfl ?_
    refine cr_aload_n (pc := 2) C dX2_unmetByWrite_2 rfl ?_
    refine cr_iload_n (pc := 3) C dX2_unmetByWrite_3 rfl ?_
    refine cr_dN (pc := 4) C (sp_only hr) rfl gX2_unmetByWrite_X3_only_n73 rfl dX2_unmetByWrite_4 neX3_only isX2_unmetByWrite_X3_only hsX3_only rfl ⟨rfl, rfl, Nat.le_of_ble_eq_true rfl, Nat.le_of_ble_eq_true rfl⟩ (Nat.le_of_ble_eq_true rfl) rfl ?_
    refine cr_aload_n (pc := 7) C dX2_unmetByWrite_7 rfl ?_
    refine cr_getr (pc := 8) (c := 2) (k := 9) C (by first | rfl | assumption | (simp [cg_ok]; omega)) rfl (by decide) rfl inX2_unmetByWrite_X2 flX2_unmetByWrite_42 dX2_unmetByWrite_8 ?_
    refine cr_iload_n (pc := 11) C dX2_unmetByWrite_11 rfl ?_
    refine cr_aaload (pc := 12) C rfl (by first | rfl | assumption | (simp [cg_ok]; omega)) (by omega) (by first | decide | omega) dX2_unmetByWrite_12 ?_
    refine cr_dV (pc := 13) C (sp_covers (cg_two3 hr) (by simp [cg_ok]; omega) rfl) rfl gX2_unmetByWrite_X2_covers rfl dX2_unmetByWrite_13 (by first | rfl | assumption | (simp [cg_ok]; omega)) rfl hvX2_covers rfl ⟨rfl, rfl, Nat.le_of_ble_eq_true rfl, Nat.le_of_ble_eq_true rfl⟩ (Nat.le_of_ble_eq_true rfl) rfl ?_
    rw [h1]
    refine cr_if_ne_t (pc := 16) (tgt := 23) C dX2_unmetByWrite_16 (by decide) (by decide) ?_
    refine cr_aload_n (pc := 23) C dX2_unmetByWrite_23 rfl ?_
    refine cr_iload_n (pc := 24) C dX2_unmetByWrite_24 rfl ?_
    refine cr_dN (pc := 25) C (sp_only hr) rfl gX2_unmetByWrite_X3_only_n73 rfl dX2_unmetByWrite_25 neX3_only isX2_unmetByWrite_X3_only hsX3_only rfl ⟨rfl, rfl, Nat.le_of_ble_eq_true rfl, Nat.le_of_ble_eq_true rfl⟩ (Nat.le_of_ble_eq_true rfl) rfl ?_
    refine cr_aload_n (pc := 28) C dX2_unmetByWrite_28 rfl ?_
    refine cr_getr (pc := 29) (c := 2) (k := 10) C (by first | rfl | assumption | (simp [cg_ok]; omega)) rfl (by decide) rfl inX2_unmetByWrite_X2 flX2_unmetByWrite_45 dX2_unmetByWrite_29 ?_
    refine cr_iload_n (pc := 32) C dX2_unmetByWrite_32 rfl ?_
    refine cr_aaload (pc := 33) C rfl (by first | rfl | assumption | (simp [cg_ok]; omega)) (by omega) (by first | decide | omega) dX2_unmetByWrite_33 ?_
    refine cr_dV (pc := 34) C (sp_covers (cg_two3 hr) (by simp [cg_ok]; omega) rfl) rfl gX2_unmetByWrite_X2_covers rfl dX2_unmetByWrite_34 (by first | rfl | assumption | (simp [cg_ok]; omega)) rfl hvX2_covers rfl ⟨rfl, rfl, Nat.le_of_ble_eq_true rfl, Nat.le_of_ble_eq_true rfl⟩ (Nat.le_of_ble_eq_true rfl) rfl ?_
    rw [h2]
    refine cr_if_ne_t (pc := 37) (tgt := 45) C dX2_unmetByWrite_37 (by decide) (by decide) ?_
    refine cr_iload_n (pc := 45) C dX2_unmetByWrite_45 rfl ?_
    refine cr_ireturn (pc := 46) C X dX2_unmetByWrite_46 ?_
    exact ⟨by unfold cg_uW; rw [h1, h2]; rfl, rfl⟩
set_option maxRecDepth 100000 in
set_option maxHeartbeats 4000000 in
theorem sp_rA {M : cg_M} {P : Nat → Int32} {c s : Nat} (hc : c < 4) (hs : s < 16) : cg_D yX2_isReadAllowed wsX2_isReadAllowed rmX2_isReadAllowed [.inr (.inr (0, 0, 0, 0)), .inl (nI c), .inl (nI s)] (cg_sb M 0 P) (some (.inl (cg_b (cg_rA P c s)))) ((cg_sb M 0 P)) := by
  refine cg_S_of (cc := cX2_isReadAllowed) (maxL := 3) (ret := (some .boolean)) (ls0 := [some (.inr (.inr (0, 0, 0, 0))), some (.inl (nI c)), some (.inl (nI s))]) RX2 rfl (by decide) rfl rfl (Nat.le_of_ble_eq_true rfl) (fun E C X => ?_)
  refine cr_aload_n (pc := 0) C dX2_isReadAllowed_0 rfl ?_
  refine cr_iload_n (pc := 1) C dX2_isReadAllowed_1 rfl ?_
  refine cr_iload_n (pc := 2) C dX2_isReadAllowed_2 rfl ?_
  refine cr_dV (pc := 3) C (sp_uR hc hs) rfl gX2_isReadAllowed_X2_unmetByRead rfl dX2_isReadAllowed_3 (by first | rfl | assumption | (simp [cg_ok]; omega)) rfl hvX2_unmetByRead rfl ⟨rfl, rfl, Nat.le_of_ble_eq_true rfl, Nat.le_of_ble_eq_true rfl⟩ (Nat.le_of_ble_eq_true rfl) rfl ?_
  refine cr_aload_n (pc := 6) C dX2_isReadAllowed_6 rfl ?_
  refine cr_getr (pc := 7) (c := 2) (k := 8) C (by first | rfl | assumption | (simp [cg_ok]; omega)) rfl (by decide) rfl inX2_isReadAllowed_X2 flX2_isReadAllowed_39 dX2_isReadAllowed_7 ?_
  refine cr_iload_n (pc := 10) C dX2_isReadAllowed_10 rfl ?_
  refine cr_iaload (pc := 11) C rfl (by first | rfl | assumption | (simp [cg_ok]; omega)) (by omega) (by first | decide | omega) dX2_isReadAllowed_11 ?_
  rw [cg_sb_s]
  refine cr_iand (pc := 12) C dX2_isReadAllowed_12 ?_
  refine cr_if_ne (pc := 13) (tgt := 20) C dX2_isReadAllowed_13 (by decide) (fun h13 => ?_) (fun h13 => ?_)
  · refine cr_iconst (pc := 20) (v := nI 0) C dX2_isReadAllowed_20 (by decide) ?_
    refine cr_zreturn (pc := 21) C X dX2_isReadAllowed_21 (by first | exact Or.inr rfl | exact Or.inl rfl | assumption) ?_
    exact ⟨by simp [cg_rA, cg_b, h13], rfl⟩
  · refine cr_iconst (pc := 16) (v := nI 1) C dX2_isReadAllowed_16 (by decide) ?_
    refine cr_goto (pc := 17) (tgt := 21) C dX2_isReadAllowed_17 (by decide) ?_
    refine cr_zreturn (pc := 21) C X dX2_isReadAllowed_21 (by first | exact Or.inr rfl | exact Or.inl rfl | assumption) ?_
    exact ⟨by simp [cg_rA, cg_b, h13], rfl⟩
set_option maxRecDepth 100000 in
set_option maxHeartbeats 4000000 in
theorem sp_wA {M : cg_M} {P : Nat → Int32} {c r : Nat} (hc : c < 4) (hr : r < 3) : cg_D yX2_isWriteAllowed wsX2_isWriteAllowed rmX2_isWriteAllowed [.inr (.inr (0, 0, 0, 0)), .inl (nI c), .inl (nI r)] (cg_sb M 0 P) (some (.inl (cg_b (cg_wA P c r)))) ((cg_sb M 0 P)) := by
  refine cg_S_of (cc := cX2_isWriteAllowed) (maxL := 3) (ret := (some .boolean)) (ls0 := [some (.inr (.inr (0, 0, 0, 0))), some (.inl (nI c)), some (.inl (nI r))]) RX2 rfl (by decide) rfl rfl (Nat.le_of_ble_eq_true rfl) (fun E C X => ?_)
  refine cr_aload_n (pc := 0) C dX2_isWriteAllowed_0 rfl ?_
  refine cr_iload_n (pc := 1) C dX2_isWriteAllowed_1 rfl ?_
  refine cr_iload_n (pc := 2) C dX2_isWriteAllowed_2 rfl ?_
  refine cr_dV (pc := 3) C (sp_uW hc hr) rfl gX2_isWriteAllowed_X2_unmetByWrite rfl dX2_isWriteAllowed_3 (by first | rfl | assumption | (simp [cg_ok]; omega)) rfl hvX2_unmetByWrite rfl ⟨rfl, rfl, Nat.le_of_ble_eq_true rfl, Nat.le_of_ble_eq_true rfl⟩ (Nat.le_of_ble_eq_true rfl) rfl ?_
  refine cr_aload_n (pc := 6) C dX2_isWriteAllowed_6 rfl ?_
  refine cr_getr (pc := 7) (c := 2) (k := 8) C (by first | rfl | assumption | (simp [cg_ok]; omega)) rfl (by decide) rfl inX2_isWriteAllowed_X2 flX2_isWriteAllowed_39 dX2_isWriteAllowed_7 ?_
  refine cr_iload_n (pc := 10) C dX2_isWriteAllowed_10 rfl ?_
  refine cr_iaload (pc := 11) C rfl (by first | rfl | assumption | (simp [cg_ok]; omega)) (by omega) (by first | decide | omega) dX2_isWriteAllowed_11 ?_
  rw [cg_sb_s]
  refine cr_iand (pc := 12) C dX2_isWriteAllowed_12 ?_
  refine cr_if_ne (pc := 13) (tgt := 20) C dX2_isWriteAllowed_13 (by decide) (fun h13 => ?_) (fun h13 => ?_)
  · refine cr_iconst (pc := 20) (v := nI 0) C dX2_isWriteAllowed_20 (by decide) ?_
    refine cr_zreturn (pc := 21) C X dX2_isWriteAllowed_21 (by first | exact Or.inr rfl | exact Or.inl rfl | assumption) ?_
    exact ⟨by simp [cg_wA, cg_b, h13], rfl⟩
  · refine cr_iconst (pc := 16) (v := nI 1) C dX2_isWriteAllowed_16 (by decide) ?_
    refine cr_goto (pc := 17) (tgt := 21) C dX2_isWriteAllowed_17 (by decide) ?_
    refine cr_zreturn (pc := 21) C X dX2_isWriteAllowed_21 (by first | exact Or.inr rfl | exact Or.inl rfl | assumption) ?_
    exact ⟨by simp [cg_wA, cg_b, h13], rfl⟩
set_option maxRecDepth 100000 in
set_option maxHeartbeats 4000000 in
theorem sp_cb {M : cg_M} {P : Nat → Int32} {u : Nat} (hu : u < 16) : cg_D yX2_countBreaches wsX2_countBreaches rmX2_countBreaches [.inr (.inr (0, 0, 0, 0)), .inl (nI u)] (cg_sb M 0 P) none (cg_sb M 0 (cg_cb P u)) := by
  refine cg_S_of (cc := cX2_countBreaches) (maxL := 3) (ret := none) (ls0 := [some (.inr (.inr (0, 0, 0, 0))), some (.inl (nI u)), none]) RX2 rfl (by decide) rfl rfl (Nat.le_of_ble_eq_true rfl) (fun E C X => ?_)
  have hK4 : ∀ A : Nat → Int32, A = cg_cb P u → cg_W E (cg_sb M 0 A) 2 [some (.inr (.inr (0, 0, 0, 0))), some (.inl (nI u)), some (.inl (nI 4))] [] := by
    intro A ha
    refine cr_iload_n (pc := 2) C dX2_countBreaches_2 rfl ?_
    refine cr_iconst (pc := 3) (v := nI 4) C dX2_countBreaches_3 (by decide) ?_
    refine cr_icmp_ge_t (pc := 4) (tgt := 31) C dX2_countBreaches_4 (by decide) (by decide) ?_
    refine cr_return (pc := 31) C X dX2_countBreaches_31 ?_
    exact ⟨rfl, by rw [ha]⟩
  have hK3 : ∀ A : Nat → Int32, (cg_b1 u 3 A) = cg_cb P u → cg_W E (cg_sb M 0 A) 2 [some (.inr (.inr (0, 0, 0, 0))), some (.inl (nI u)), some (.inl (nI 3))] [] := by
    intro A ha
    cases hb : Nat.testBit u 3
    · refine cr_iload_n (pc := 2) C dX2_countBreaches_2 rfl ?_
      refine cr_iconst (pc := 3) (v := nI 4) C dX2_countBreaches_3 (by decide) ?_
      refine cr_icmp_ge_f (pc := 4) (tgt := 31) C dX2_countBreaches_4 (by decide) (by decide) ?_
      refine cr_iload_n (pc := 7) C dX2_countBreaches_7 rfl ?_
      refine cr_iload_n (pc := 8) C dX2_countBreaches_8 rfl ?_
      refine cr_dN (pc := 9) C (sp_contains hu (by decide)) rfl gX2_countBreaches_X3_contains_n109 rfl dX2_countBreaches_9 neX3_contains isX2_countBreaches_X3_contains hsX3_contains rfl ⟨rfl, rfl, Nat.le_of_ble_eq_true rfl, Nat.le_of_ble_eq_true rfl⟩ (Nat.le_of_ble_eq_true rfl) rfl ?_
      rw [hb]
      refine cr_if_eq_t (pc := 12) (tgt := 25) C dX2_countBreaches_12 (by decide) (by decide) ?_
      refine cr_iinc2 (pc := 25) (v := nI 4) C dX2_countBreaches_25 (by decide) (by decide) rfl ?_
      refine cr_goto (pc := 28) (tgt := 2) C dX2_countBreaches_28 (by decide) ?_
      exact hK4 _ (by rw [← ha]; simp [cg_b1, hb])
    · refine cr_iload_n (pc := 2) C dX2_countBreaches_2 rfl ?_
      refine cr_iconst (pc := 3) (v := nI 4) C dX2_countBreaches_3 (by decide) ?_
      refine cr_icmp_ge_f (pc := 4) (tgt := 31) C dX2_countBreaches_4 (by decide) (by decide) ?_
      refine cr_iload_n (pc := 7) C dX2_countBreaches_7 rfl ?_
      refine cr_iload_n (pc := 8) C dX2_countBreaches_8 rfl ?_
      refine cr_dN (pc := 9) C (sp_contains hu (by decide)) rfl gX2_countBreaches_X3_contains_n109 rfl dX2_countBreaches_9 neX3_contains isX2_countBreaches_X3_contains hsX3_contains rfl ⟨rfl, rfl, Nat.le_of_ble_eq_true rfl, Nat.le_of_ble_eq_true rfl⟩ (Nat.le_of_ble_eq_true rfl) rfl ?_
      rw [hb]
      refine cr_if_eq_f (pc := 12) (tgt := 25) C dX2_countBreaches_12 (by decide) (by decide) ?_
      refine cr_aload_n (pc := 15) C dX2_countBreaches_15 rfl ?_
      refine cr_getr (pc := 16) (c := 2) (k := 11) C (by first | rfl | assumption | (simp [cg_ok]; omega)) rfl (by decide) rfl inX2_countBreaches_X2 flX2_countBreaches_48 dX2_countBreaches_16 ?_
      refine cr_iload_n (pc := 19) C dX2_countBreaches_19 rfl ?_
      refine cr_dup2 (pc := 20) C dX2_countBreaches_20 rfl rfl ?_
      refine cr_iaload (pc := 21) C rfl (by first | rfl | assumption | (simp [cg_ok]; omega)) (by decide) (by first | decide | omega) dX2_countBreaches_21 ?_
      rw [cg_sb_s]
      refine cr_iconst (pc := 22) (v := nI 1) C dX2_countBreaches_22 (by decide) ?_
      refine cr_iadd (pc := 23) C dX2_countBreaches_23 ?_
      refine cr_iastore (pc := 24) C rfl (by first | rfl | assumption | (simp [cg_ok]; omega)) (by decide) (by first | decide | omega) dX2_countBreaches_24 ?_
      rw [cg_up_sb]
      refine cr_iinc2 (pc := 25) (v := nI 4) C dX2_countBreaches_25 (by decide) (by decide) rfl ?_
      refine cr_goto (pc := 28) (tgt := 2) C dX2_countBreaches_28 (by decide) ?_
      exact hK4 _ (by rw [← ha]; simp [cg_b1, hb])
  have hK2 : ∀ A : Nat → Int32, (cg_b1 u 3 (cg_b1 u 2 A)) = cg_cb P u → cg_W E (cg_sb M 0 A) 2 [some (.inr (.inr (0, 0, 0, 0))), some (.inl (nI u)), some (.inl (nI 2))] [] := by
    intro A ha
    cases hb : Nat.testBit u 2
    · refine cr_iload_n (pc := 2) C dX2_countBreaches_2 rfl ?_
      refine cr_iconst (pc := 3) (v := nI 4) C dX2_countBreaches_3 (by decide) ?_
      refine cr_icmp_ge_f (pc := 4) (tgt := 31) C dX2_countBreaches_4 (by decide) (by decide) ?_
      refine cr_iload_n (pc := 7) C dX2_countBreaches_7 rfl ?_
      refine cr_iload_n (pc := 8) C dX2_countBreaches_8 rfl ?_
      refine cr_dN (pc := 9) C (sp_contains hu (by decide)) rfl gX2_countBreaches_X3_contains_n109 rfl dX2_countBreaches_9 neX3_contains isX2_countBreaches_X3_contains hsX3_contains rfl ⟨rfl, rfl, Nat.le_of_ble_eq_true rfl, Nat.le_of_ble_eq_true rfl⟩ (Nat.le_of_ble_eq_true rfl) rfl ?_
      rw [hb]
      refine cr_if_eq_t (pc := 12) (tgt := 25) C dX2_countBreaches_12 (by decide) (by decide) ?_
      refine cr_iinc2 (pc := 25) (v := nI 3) C dX2_countBreaches_25 (by decide) (by decide) rfl ?_
      refine cr_goto (pc := 28) (tgt := 2) C dX2_countBreaches_28 (by decide) ?_
      exact hK3 _ (by rw [← ha]; simp [cg_b1, hb])
    · refine cr_iload_n (pc := 2) C dX2_countBreaches_2 rfl ?_
      refine cr_iconst (pc := 3) (v := nI 4) C dX2_countBreaches_3 (by decide) ?_
      refine cr_icmp_ge_f (pc := 4) (tgt := 31) C dX2_countBreaches_4 (by decide) (by decide) ?_
      refine cr_iload_n (pc := 7) C dX2_countBreaches_7 rfl ?_
      refine cr_iload_n (pc := 8) C dX2_countBreaches_8 rfl ?_
      refine cr_dN (pc := 9) C (sp_contains hu (by decide)) rfl gX2_countBreaches_X3_contains_n109 rfl dX2_countBreaches_9 neX3_contains isX2_countBreaches_X3_contains hsX3_contains rfl ⟨rfl, rfl, Nat.le_of_ble_eq_true rfl, Nat.le_of_ble_eq_true rfl⟩ (Nat.le_of_ble_eq_true rfl) rfl ?_
      rw [hb]
      refine cr_if_eq_f (pc := 12) (tgt := 25) C dX2_countBreaches_12 (by decide) (by decide) ?_
      refine cr_aload_n (pc := 15) C dX2_countBreaches_15 rfl ?_
      refine cr_getr (pc := 16) (c := 2) (k := 11) C (by first | rfl | assumption | (simp [cg_ok]; omega)) rfl (by decide) rfl inX2_countBreaches_X2 flX2_countBreaches_48 dX2_countBreaches_16 ?_
      refine cr_iload_n (pc := 19) C dX2_countBreaches_19 rfl ?_
      refine cr_dup2 (pc := 20) C dX2_countBreaches_20 rfl rfl ?_
      refine cr_iaload (pc := 21) C rfl (by first | rfl | assumption | (simp [cg_ok]; omega)) (by decide) (by first | decide | omega) dX2_countBreaches_21 ?_
      rw [cg_sb_s]
      refine cr_iconst (pc := 22) (v := nI 1) C dX2_countBreaches_22 (by decide) ?_
      refine cr_iadd (pc := 23) C dX2_countBreaches_23 ?_
      refine cr_iastore (pc := 24) C rfl (by first | rfl | assumption | (simp [cg_ok]; omega)) (by decide) (by first | decide | omega) dX2_countBreaches_24 ?_
      rw [cg_up_sb]
      refine cr_iinc2 (pc := 25) (v := nI 3) C dX2_countBreaches_25 (by decide) (by decide) rfl ?_
      refine cr_goto (pc := 28) (tgt := 2) C dX2_countBreaches_28 (by decide) ?_
      exact hK3 _ (by rw [← ha]; simp [cg_b1, hb])
  have hK1 : ∀ A : Nat → Int32, (cg_b1 u 3 (cg_b1 u 2 (cg_b1 u 1 A))) = cg_cb P u → cg_W E (cg_sb M 0 A) 2 [some (.inr (.inr (0, 0, 0, 0))), some (.inl (nI u)), some (.inl (nI 1))] [] := by
    intro A ha
    cases hb : Nat.testBit u 1
    · refine cr_iload_n (pc := 2) C dX2_countBreaches_2 rfl ?_
      refine cr_iconst (pc := 3) (v := nI 4) C dX2_countBreaches_3 (by decide) ?_
      refine cr_icmp_ge_f (pc := 4) (tgt := 31) C dX2_countBreaches_4 (by decide) (by decide) ?_
      refine cr_iload_n (pc := 7) C dX2_countBreaches_7 rfl ?_
      refine cr_iload_n (pc := 8) C dX2_countBreaches_8 rfl ?_
      refine cr_dN (pc := 9) C (sp_contains hu (by decide)) rfl gX2_countBreaches_X3_contains_n109 rfl dX2_countBreaches_9 neX3_contains isX2_countBreaches_X3_contains hsX3_contains rfl ⟨rfl, rfl, Nat.le_of_ble_eq_true rfl, Nat.le_of_ble_eq_true rfl⟩ (Nat.le_of_ble_eq_true rfl) rfl ?_
      rw [hb]
      refine cr_if_eq_t (pc := 12) (tgt := 25) C dX2_countBreaches_12 (by decide) (by decide) ?_
      refine cr_iinc2 (pc := 25) (v := nI 2) C dX2_countBreaches_25 (by decide) (by decide) rfl ?_
      refine cr_goto (pc := 28) (tgt := 2) C dX2_countBreaches_28 (by decide) ?_
      exact hK2 _ (by rw [← ha]; simp [cg_b1, hb])
    · refine cr_iload_n (pc := 2) C dX2_countBreaches_2 rfl ?_
      refine cr_iconst (pc := 3) (v := nI 4) C dX2_countBreaches_3 (by decide) ?_
      refine cr_icmp_ge_f (pc := 4) (tgt := 31) C dX2_countBreaches_4 (by decide) (by decide) ?_
      refine cr_iload_n (pc := 7) C dX2_countBreaches_7 rfl ?_
      refine cr_iload_n (pc := 8) C dX2_countBreaches_8 rfl ?_
      refine cr_dN (pc := 9) C (sp_contains hu (by decide)) rfl gX2_countBreaches_X3_contains_n109 rfl dX2_countBreaches_9 neX3_contains isX2_countBreaches_X3_contains hsX3_contains rfl ⟨rfl, rfl, Nat.le_of_ble_eq_true rfl, Nat.le_of_ble_eq_true rfl⟩ (Nat.le_of_ble_eq_true rfl) rfl ?_
      rw [hb]
      refine cr_if_eq_f (pc := 12) (tgt := 25) C dX2_countBreaches_12 (by decide) (by decide) ?_
      refine cr_aload_n (pc := 15) C dX2_countBreaches_15 rfl ?_
      refine cr_getr (pc := 16) (c := 2) (k := 11) C (by first | rfl | assumption | (simp [cg_ok]; omega)) rfl (by decide) rfl inX2_countBreaches_X2 flX2_countBreaches_48 dX2_countBreaches_16 ?_
      refine cr_iload_n (pc := 19) C dX2_countBreaches_19 rfl ?_
      refine cr_dup2 (pc := 20) C dX2_countBreaches_20 rfl rfl ?_
      refine cr_iaload (pc := 21) C rfl (by first | rfl | assumption | (simp [cg_ok]; omega)) (by decide) (by first | decide | omega) dX2_countBreaches_21 ?_
      rw [cg_sb_s]
      refine cr_iconst (pc := 22) (v := nI 1) C dX2_countBreaches_22 (by decide) ?_
      refine cr_iadd (pc := 23) C dX2_countBreaches_23 ?_
      refine cr_iastore (pc := 24) C rfl (by first | rfl | assumption | (simp [cg_ok]; omega)) (by decide) (by first | decide | omega) dX2_countBreaches_24 ?_
      rw [cg_up_sb]
      refine cr_iinc2 (pc := 25) (v := nI 2) C dX2_countBreaches_25 (by decide) (by decide) rfl ?_
      refine cr_goto (pc := 28) (tgt := 2) C dX2_countBreaches_28 (by decide) ?_
      exact hK2 _ (by rw [← ha]; simp [cg_b1, hb])
  have hK0 : ∀ A : Nat → Int32, (cg_b1 u 3 (cg_b1 u 2 (cg_b1 u 1 (cg_b1 u 0 A)))) = cg_cb P u → cg_W E (cg_sb M 0 A) 2 [some (.inr (.inr (0, 0, 0, 0))), some (.inl (nI u)), some (.inl (nI 0))] [] := by
    intro A ha
    cases hb : Nat.testBit u 0
    · refine cr_iload_n (pc := 2) C dX2_countBreaches_2 rfl ?_
      refine cr_iconst (pc := 3) (v := nI 4) C dX2_countBreaches_3 (by decide) ?_
      refine cr_icmp_ge_f (pc := 4) (tgt := 31) C dX2_countBreaches_4 (by decide) (by decide) ?_
      refine cr_iload_n (pc := 7) C dX2_countBreaches_7 rfl ?_
      refine cr_iload_n (pc := 8) C dX2_countBreaches_8 rfl ?_
      refine cr_dN (pc := 9) C (sp_contains hu (by decide)) rfl gX2_countBreaches_X3_contains_n109 rfl dX2_countBreaches_9 neX3_contains isX2_countBreaches_X3_contains hsX3_contains rfl ⟨rfl, rfl, Nat.le_of_ble_eq_true rfl, Nat.le_of_ble_eq_true rfl⟩ (Nat.le_of_ble_eq_true rfl) rfl ?_
      rw [hb]
      refine cr_if_eq_t (pc := 12) (tgt := 25) C dX2_countBreaches_12 (by decide) (by decide) ?_
      refine cr_iinc2 (pc := 25) (v := nI 1) C dX2_countBreaches_25 (by decide) (by decide) rfl ?_
      refine cr_goto (pc := 28) (tgt := 2) C dX2_countBreaches_28 (by decide) ?_
      exact hK1 _ (by rw [← ha]; simp [cg_b1, hb])
    · refine cr_iload_n (pc := 2) C dX2_countBreaches_2 rfl ?_
      refine cr_iconst (pc := 3) (v := nI 4) C dX2_countBreaches_3 (by decide) ?_
      refine cr_icmp_ge_f (pc := 4) (tgt := 31) C dX2_countBreaches_4 (by decide) (by decide) ?_
      refine cr_iload_n (pc := 7) C dX2_countBreaches_7 rfl ?_
      refine cr_iload_n (pc := 8) C dX2_countBreaches_8 rfl ?_
      refine cr_dN (pc := 9) C (sp_contains hu (by decide)) rfl gX2_countBreaches_X3_contains_n109 rfl dX2_countBreaches_9 neX3_contains isX2_countBreaches_X3_contains hsX3_contains rfl ⟨rfl, rfl, Nat.le_of_ble_eq_true rfl, Nat.le_of_ble_eq_true rfl⟩ (Nat.le_of_ble_eq_true rfl) rfl ?_
      rw [hb]
      refine cr_if_eq_f (pc := 12) (tgt := 25) C dX2_countBreaches_12 (by decide) (by decide) ?_
      refine cr_aload_n (pc := 15) C dX2_countBreaches_15 rfl ?_
      refine cr_getr (pc := 16) (c := 2) (k := 11) C (by first | rfl | assumption | (simp [cg_ok]; omega)) rfl (by decide) rfl inX2_countBreaches_X2 flX2_countBreaches_48 dX2_countBreaches_16 ?_
      refine cr_iload_n (pc := 19) C dX2_countBreaches_19 rfl ?_
      refine cr_dup2 (pc := 20) C dX2_countBreaches_20 rfl rfl ?_
      refine cr_iaload (pc := 21) C rfl (by first | rfl | assumption | (simp [cg_ok]; omega)) (by decide) (by first | decide | omega) dX2_countBreaches_21 ?_
      rw [cg_sb_s]
      refine cr_iconst (pc := 22) (v := nI 1) C dX2_countBreaches_22 (by decide) ?_
      refine cr_iadd (pc := 23) C dX2_countBreaches_23 ?_
      refine cr_iastore (pc := 24) C rfl (by first | rfl | assumption | (simp [cg_ok]; omega)) (by decide) (by first | decide | omega) dX2_countBreaches_24 ?_
      rw [cg_up_sb]
      refine cr_iinc2 (pc := 25) (v := nI 1) C dX2_countBreaches_25 (by decide) (by decide) rfl ?_
      refine cr_goto (pc := 28) (tgt := 2) C dX2_countBreaches_28 (by decide) ?_
      exact hK1 _ (by rw [← ha]; simp [cg_b1, hb])
  refine cr_iconst (pc := 0) (v := nI 0) C dX2_countBreaches_0 (by decide) ?_
  refine cr_istore_n2 (pc := 1) C dX2_countBreaches_1 (by decide) rfl ?_
  exact hK0 _ rfl
set_option maxRecDepth 100000 in
set_option maxHeartbeats 4000000 in
theorem sp_cG1 {M : cg_M} {P : Nat → Int32} {c g : Nat} (hc : c < 4) (hg : g < 16) : cg_D yX2_changeGuarantees wsX2_changeGuarantees rmX2_changeGuarantees [.inr (.inr (0, 0, 0, 0)), .inl (nI c), .inl (nI g)] (cg_sb M 0 P) (some (.inl (P (313 + 7 * c)))) (cg_sb M 0 (upd P (313 + 7 * c) (nI g))) := by
  refine cg_S_of (cc := cX2_changeGuarantees) (maxL := 4) (ret := (some .int)) (ls0 := [some (.inr (.inr (0, 0, 0, 0))), some (.inl (nI c)), some (.inl (nI g)), none]) RX2 rfl (by decide) rfl rfl (Nat.le_of_ble_eq_true rfl) (fun E C X => ?_)
  refine cr_iload_n (pc := 0) C dX2_changeGuarantees_0 rfl ?_
  refine cr_dN (pc := 1) C (sp_isClient1 hc) rfl gX2_changeGuarantees_X3_isClient_n59 rfl dX2_changeGuarantees_1 neX3_isClient isX2_changeGuarantees_X3_isClient hsX3_isClient rfl ⟨rfl, rfl, Nat.le_of_ble_eq_true rfl, Nat.le_of_ble_eq_true rfl⟩ (Nat.le_of_ble_eq_true rfl) rfl ?_
  refine cr_if_eq_f (pc := 4) (tgt := 16) C dX2_changeGuarantees_4 (by decide) (by decide) ?_
  refine cr_iload_n (pc := 7) C dX2_changeGuarantees_7 rfl ?_
  refine cr_bipush (pc := 8) (v := nI 16) C dX2_changeGuarantees_8 (by decide) ?_
  refine cr_dN (pc := 10) C (sp_isBelow1 hg (by decide)) rfl gX2_changeGuarantees_X3_isBelow_n63 rfl dX2_changeGuarantees_10 neX3_isBelow isX2_changeGuarantees_X3_isBelow hsX3_isBelow rfl ⟨rfl, rfl, Nat.le_of_ble_eq_true rfl, Nat.le_of_ble_eq_true rfl⟩ (Nat.le_of_ble_eq_true rfl) rfl ?_
  refine cr_if_ne_t (pc := 13) (tgt := 19) C dX2_changeGuarantees_13 (by decide) (by decide) ?_
  refine cr_aload_n (pc := 19) C dX2_changeGuarantees_19 rfl ?_
  refine cr_getr (pc := 20) (c := 2) (k := 8) C (by first | rfl | assumption | (simp [cg_ok]; omega)) rfl (by decide) rfl inX2_changeGuarantees_X2 flX2_changeGuarantees_39 dX2_changeGuarantees_20 ?_
  refine cr_iload_n (pc := 23) C dX2_changeGuarantees_23 rfl ?_
  refine cr_iaload (pc := 24) C rfl (by first | rfl | assumption | (simp [cg_ok]; omega)) (by omega) (by first | decide | omega) dX2_changeGuarantees_24 ?_
  rw [cg_sb_s]
  refine cr_istore_n3 (pc := 25) C dX2_changeGuarantees_25 (by decide) rfl ?_
  refine cr_aload_n (pc := 26) C dX2_changeGuarantees_26 rfl ?_
  refine cr_getr (pc := 27) (c := 2) (k := 8) C (by first | rfl | assumption | (simp [cg_ok]; omega)) rfl (by decide) rfl inX2_changeGuarantees_X2 flX2_changeGuarantees_39 dX2_changeGuarantees_27 ?_
  refine cr_iload_n (pc := 30) C dX2_changeGuarantees_30 rfl ?_
  refine cr_iload_n (pc := 31) C dX2_changeGuarantees_31 rfl ?_
  refine cr_iastore (pc := 32) C rfl (by first | rfl | assumption | (simp [cg_ok]; omega)) (by omega) (by first | decide | omega) dX2_changeGuarantees_32 ?_
  rw [cg_up_sb]
  refine cr_iload_n (pc := 33) C dX2_changeGuarantees_33 rfl ?_
  refine cr_ireturn (pc := 34) C X dX2_changeGuarantees_34 ?_
  exact ⟨rfl, rfl⟩
set_option maxRecDepth 100000 in
set_option maxHeartbeats 4000000 in
theorem sp_cG0 {M : cg_M} {P : Nat → Int32} {x y : Int32} (h : ¬ (cg_in x 4 ∧ cg_in y 16)) : cg_D yX2_changeGuarantees wsX2_changeGuarantees rmX2_changeGuarantees [.inr (.inr (0, 0, 0, 0)), .inl (x), .inl (y)] (cg_sb M 0 P) (some (.inl (-2))) ((cg_sb M 0 P)) := by
  rcases Classical.em (cg_in x 4) with ⟨c, hc, rfl⟩ | hx
  · refine cg_S_of (cc := cX2_changeGuarantees) (maxL := 4) (ret := (some .int)) (ls0 := [some (.inr (.inr (0, 0, 0, 0))), some (.inl (nI c)), some (.inl (y)), none]) RX2 rfl (by decide) rfl rfl (Nat.le_of_ble_eq_true rfl) (fun E C X => ?_)
    refine cr_iload_n (pc := 0) C dX2_changeGuarantees_0 rfl ?_
    refine cr_dN (pc := 1) C (sp_isClient1 hc) rfl gX2_changeGuarantees_X3_isClient_n59 rfl dX2_changeGuarantees_1 neX3_isClient isX2_changeGuarantees_X3_isClient hsX3_isClient rfl ⟨rfl, rfl, Nat.le_of_ble_eq_true rfl, Nat.le_of_ble_eq_true rfl⟩ (Nat.le_of_ble_eq_true rfl) rfl ?_
    refine cr_if_eq_f (pc := 4) (tgt := 16) C dX2_changeGuarantees_4 (by decide) (by decide) ?_
    refine cr_iload_n (pc := 7) C dX2_changeGuarantees_7 rfl ?_
    refine cr_bipush (pc := 8) (v := nI 16) C dX2_changeGuarantees_8 (by decide) ?_
    refine cr_dN (pc := 10) C (sp_isBelow0 (fun q => h ⟨⟨_, hc, rfl⟩, q⟩) (by decide)) rfl gX2_changeGuarantees_X3_isBelow_n63 rfl dX2_changeGuarantees_10 neX3_isBelow isX2_changeGuarantees_X3_isBelow hsX3_isBelow rfl ⟨rfl, rfl, Nat.le_of_ble_eq_true rfl, Nat.le_of_ble_eq_true rfl⟩ (Nat.le_of_ble_eq_true rfl) rfl ?_
    refine cr_if_ne_f (pc := 13) (tgt := 19) C dX2_changeGuarantees_13 (by decide) (by decide) ?_
    refine cr_bipush (pc := 16) (v := (-2)) C dX2_changeGuarantees_16 (by decide) ?_
    refine cr_ireturn (pc := 18) C X dX2_changeGuarantees_18 ?_
    exact ⟨rfl, rfl⟩
  · refine cg_S_of (cc := cX2_changeGuarantees) (maxL := 4) (ret := (some .int)) (ls0 := [some (.inr (.inr (0, 0, 0, 0))), some (.inl (x)), some (.inl (y)), none]) RX2 rfl (by decide) rfl rfl (Nat.le_of_ble_eq_true rfl) (fun E C X => ?_)
    refine cr_iload_n (pc := 0) C dX2_changeGuarantees_0 rfl ?_
    refine cr_dN (pc := 1) C (sp_isClient0 hx) rfl gX2_changeGuarantees_X3_isClient_n59 rfl dX2_changeGuarantees_1 neX3_isClient isX2_changeGuarantees_X3_isClient hsX3_isClient rfl ⟨rfl, rfl, Nat.le_of_ble_eq_true rfl, Nat.le_of_ble_eq_true rfl⟩ (Nat.le_of_ble_eq_true rfl) rfl ?_
    refine cr_if_eq_t (pc := 4) (tgt := 16) C dX2_changeGuarantees_4 (by decide) (by decide) ?_
    refine cr_bipush (pc := 16) (v := (-2)) C dX2_changeGuarantees_16 (by decide) ?_
    refine cr_ireturn (pc := 18) C X dX2_changeGuarantees_18 ?_
    exact ⟨rfl, rfl⟩
set_option maxRecDepth 100000 in
set_option maxHeartbeats 4000000 in
theorem sp_cV1 {M : cg_M} {P : Nat → Int32} {c : Nat} (hc : c < 4) : cg_D yX2_clearVectors wsX2_clearVectors rmX2_clearVectors [.inr (.inr (0, 0, 0, 0)), .inl (nI c)] (cg_sb M 0 P) (some (.inl ((cg_fg c P).1))) (cg_sb M 0 (cg_fg c P).2) := by
  refine cg_S_of (cc := cX2_clearVectors) (maxL := 4) (ret := (some .int)) (ls0 := [some (.inr (.inr (0, 0, 0, 0))), some (.inl (nI c)), none, none]) RX2 rfl (by decide) rfl rfl (Nat.le_of_ble_eq_true rfl) (fun E C X => ?_)
  refine cr_iload_n (pc := 0) C dX2_clearVectors_0 rfl ?_
  refine cr_dN (pc := 1) C (sp_isClient1 hc) rfl gX2_clearVectors_X3_isClient_n59 rfl dX2_clearVectors_1 neX3_isClient isX2_clearVectors_X3_isClient hsX3_isClient rfl ⟨rfl, rfl, Nat.le_of_ble_eq_true rfl, Nat.le_of_ble_eq_true rfl⟩ (Nat.le_of_ble_eq_true rfl) rfl ?_
  refine cr_if_ne_t (pc := 4) (tgt := 10) C dX2_clearVectors_4 (by decide) (by decide) ?_
  refine cr_iconst (pc := 10) (v := nI 0) C dX2_clearVectors_10 (by decide) ?_
  refine cr_istore_n2 (pc := 11) C dX2_clearVectors_11 (by decide) rfl ?_
  refine cr_iconst (pc := 12) (v := nI 0) C dX2_clearVectors_12 (by decide) ?_
  refine cr_istore_n3 (pc := 13) C dX2_clearVectors_13 (by decide) rfl ?_
  refine cr_iload_n (pc := 14) C dX2_clearVectors_14 rfl ?_
  refine cr_iconst (pc := 15) (v := nI 3) C dX2_clearVectors_15 (by decide) ?_
  refine cr_icmp_ge_f (pc := 16) (tgt := 63) C dX2_clearVectors_16 (by decide) (by decide) ?_
  refine cr_iload_n (pc := 19) C dX2_clearVectors_19 rfl ?_
  refine cr_aload_n (pc := 20) C dX2_clearVectors_20 rfl ?_
  refine cr_getr (pc := 21) (c := 2) (k := 9) C (by first | rfl | assumption | (simp [cg_ok]; omega)) rfl (by decide) rfl inX2_clearVectors_X2 flX2_clearVectors_42 dX2_clearVectors_21 ?_
  refine cr_iload_n (pc := 24) C dX2_clearVectors_24 rfl ?_
  refine cr_aaload (pc := 25) C rfl (by first | rfl | assumption | (simp [cg_ok]; omega)) (by omega) (by first | decide | omega) dX2_clearVectors_25 ?_
  refine cr_iload_n (pc := 26) C dX2_clearVectors_26 rfl ?_
  refine cr_iaload (pc := 27) C rfl (by first | rfl | assumption | (simp [cg_ok]; omega)) (by decide) (by first | decide | omega) dX2_clearVectors_27 ?_
  rw [cg_sb_s]
  refine cr_aload_n (pc := 28) C dX2_clearVectors_28 rfl ?_
  refine cr_getr (pc := 29) (c := 2) (k := 10) C (by first | rfl | assumption | (simp [cg_ok]; omega)) rfl (by decide) rfl inX2_clearVectors_X2 flX2_clearVectors_45 dX2_clearVectors_29 ?_
  refine cr_iload_n (pc := 32) C dX2_clearVectors_32 rfl ?_
  refine cr_aaload (pc := 33) C rfl (by first | rfl | assumption | (simp [cg_ok]; omega)) (by omega) (by first | decide | omega) dX2_clearVectors_33 ?_
  refine cr_iload_n (pc := 34) C dX2_clearVectors_34 rfl ?_
  refine cr_iaload (pc := 35) C rfl (by first | rfl | assumption | (simp [cg_ok]; omega)) (by decide) (by first | decide | omega) dX2_clearVectors_35 ?_
  rw [cg_sb_s]
  refine cr_iadd (pc := 36) C dX2_clearVectors_36 ?_
  refine cr_iadd (pc := 37) C dX2_clearVectors_37 ?_
  refine cr_istore_n2 (pc := 38) C dX2_clearVectors_38 (by decide) rfl ?_
  refine cr_aload_n (pc := 39) C dX2_clearVectors_39 rfl ?_
  refine cr_getr (pc := 40) (c := 2) (k := 9) C (by first | rfl | assumption | (simp [cg_ok]; omega)) rfl (by decide) rfl inX2_clearVectors_X2 flX2_clearVectors_42 dX2_clearVectors_40 ?_
  refine cr_iload_n (pc := 43) C dX2_clearVectors_43 rfl ?_
  refine cr_aaload (pc := 44) C rfl (by first | rfl | assumption | (simp [cg_ok]; omega)) (by omega) (by first | decide | omega) dX2_clearVectors_44 ?_
  refine cr_iload_n (pc := 45) C dX2_clearVectors_45 rfl ?_
  refine cr_iconst (pc := 46) (v := nI 0) C dX2_clearVectors_46 (by decide) ?_
  refine cr_iastore (pc := 47) C rfl (by first | rfl | assumption | (simp [cg_ok]; omega)) (by decide) (by first | decide | omega) dX2_clearVectors_47 ?_
  rw [cg_up_sb]
  refine cr_aload_n (pc := 48) C dX2_clearVectors_48 rfl ?_
  refine cr_getr (pc := 49) (c := 2) (k := 10) C (by first | rfl | assumption | (simp [cg_ok]; omega)) rfl (by decide) rfl inX2_clearVectors_X2 flX2_clearVectors_45 dX2_clearVectors_49 ?_
  refine cr_iload_n (pc := 52) C dX2_clearVectors_52 rfl ?_
  refine cr_aaload (pc := 53) C rfl (by first | rfl | assumption | (simp [cg_ok]; omega)) (by omega) (by first | decide | omega) dX2_clearVectors_53 ?_
  refine cr_iload_n (pc := 54) C dX2_clearVectors_54 rfl ?_
  refine cr_iconst (pc := 55) (v := nI 0) C dX2_clearVectors_55 (by decide) ?_
  refine cr_iastore (pc := 56) C rfl (by first | rfl | assumption | (simp [cg_ok]; omega)) (by decide) (by first | decide | omega) dX2_clearVectors_56 ?_
  rw [cg_up_sb]
  refine cr_iinc3 (pc := 57) (v := nI 1) C dX2_clearVectors_57 (by decide) (by decide) rfl ?_
  refine cr_goto (pc := 60) (tgt := 14) C dX2_clearVectors_60 (by decide) ?_
  refine cr_iload_n (pc := 14) C dX2_clearVectors_14 rfl ?_
  refine cr_iconst (pc := 15) (v := nI 3) C dX2_clearVectors_15 (by decide) ?_
  refine cr_icmp_ge_f (pc := 16) (tgt := 63) C dX2_clearVectors_16 (by decide) (by decide) ?_
  refine cr_iload_n (pc := 19) C dX2_clearVectors_19 rfl ?_
  refine cr_aload_n (pc := 20) C dX2_clearVectors_20 rfl ?_
  refine cr_getr (pc := 21) (c := 2) (k := 9) C (by first | rfl | assumption | (simp [cg_ok]; omega)) rfl (by decide) rfl inX2_clearVectors_X2 flX2_clearVectors_42 dX2_clearVectors_21 ?_
  refine cr_iload_n (pc := 24) C dX2_clearVectors_24 rfl ?_
  refine cr_aaload (pc := 25) C rfl (by first | rfl | assumption | (simp [cg_ok]; omega)) (by omega) (by first | decide | omega) dX2_clearVectors_25 ?_
  refine cr_iload_n (pc := 26) C dX2_clearVectors_26 rfl ?_
  refine cr_iaload (pc := 27) C rfl (by first | rfl | assumption | (simp [cg_ok]; omega)) (by decide) (by first | decide | omega) dX2_clearVectors_27 ?_
  rw [cg_sb_s]
  refine cr_aload_n (pc := 28) C dX2_clearVectors_28 rfl ?_
  refine cr_getr (pc := 29) (c := 2) (k := 10) C (by first | rfl | assumption | (simp [cg_ok]; omega)) rfl (by decide) rfl inX2_clearVectors_X2 flX2_clearVectors_45 dX2_clearVectors_29 ?_
  refine cr_iload_n (pc := 32) C dX2_clearVectors_32 rfl ?_
  refine cr_aaload (pc := 33) C rfl (by first | rfl | assumption | (simp [cg_ok]; omega)) (by omega) (by first | decide | omega) dX2_clearVectors_33 ?_
  refine cr_iload_n (pc := 34) C dX2_clearVectors_34 rfl ?_
  refine cr_iaload (pc := 35) C rfl (by first | rfl | assumption | (simp [cg_ok]; omega)) (by decide) (by first | decide | omega) dX2_clearVectors_35 ?_
  rw [cg_sb_s]
  refine cr_iadd (pc := 36) C dX2_clearVectors_36 ?_
  refine cr_iadd (pc := 37) C dX2_clearVectors_37 ?_
  refine cr_istore_n2 (pc := 38) C dX2_clearVectors_38 (by decide) rfl ?_
  refine cr_aload_n (pc := 39) C dX2_clearVectors_39 rfl ?_
  refine cr_getr (pc := 40) (c := 2) (k := 9) C (by first | rfl | assumption | (simp [cg_ok]; omega)) rfl (by decide) rfl inX2_clearVectors_X2 flX2_clearVectors_42 dX2_clearVectors_40 ?_
  refine cr_iload_n (pc := 43) C dX2_clearVectors_43 rfl ?_
  refine cr_aaload (pc := 44) C rfl (by first | rfl | assumption | (simp [cg_ok]; omega)) (by omega) (by first | decide | omega) dX2_clearVectors_44 ?_
  refine cr_iload_n (pc := 45) C dX2_clearVectors_45 rfl ?_
  refine cr_iconst (pc := 46) (v := nI 0) C dX2_clearVectors_46 (by decide) ?_
  refine cr_iastore (pc := 47) C rfl (by first | rfl | assumption | (simp [cg_ok]; omega)) (by decide) (by first | decide | omega) dX2_clearVectors_47 ?_
  rw [cg_up_sb]
  refine cr_aload_n (pc := 48) C dX2_clearVectors_48 rfl ?_
  refine cr_getr (pc := 49) (c := 2) (k := 10) C (by first | rfl | assumption | (simp [cg_ok]; omega)) rfl (by decide) rfl inX2_clearVectors_X2 flX2_clearVectors_45 dX2_clearVectors_49 ?_
  refine cr_iload_n (pc := 52) C dX2_clearVectors_52 rfl ?_
  refine cr_aaload (pc := 53) C rfl (by first | rfl | assumption | (simp [cg_ok]; omega)) (by omega) (by first | decide | omega) dX2_clearVectors_53 ?_
  refine cr_iload_n (pc := 54) C dX2_clearVectors_54 rfl ?_
  refine cr_iconst (pc := 55) (v := nI 0) C dX2_clearVectors_55 (by decide) ?_
  refine cr_iastore (pc := 56) C rfl (by first | rfl | assumption | (simp [cg_ok]; omega)) (by decide) (by first | decide | omega) dX2_clearVectors_56 ?_
  rw [cg_up_sb]
  refine cr_iinc3 (pc := 57) (v := nI 2) C dX2_clearVectors_57 (by decide) (by decide) rfl ?_
  refine cr_goto (pc := 60) (tgt := 14) C dX2_clearVectors_60 (by decide) ?_
  refine cr_iload_n (pc := 14) C dX2_clearVectors_14 rfl ?_
  refine cr_iconst (pc := 15) (v := nI 3) C dX2_clearVectors_15 (by decide) ?_
  refine cr_icmp_ge_f (pc := 16) (tgt := 63) C dX2_clearVectors_16 (by decide) (by decide) ?_
  refine cr_iload_n (pc := 19) C dX2_clearVectors_19 rfl ?_
  refine cr_aload_n (pc := 20) C dX2_clearVectors_20 rfl ?_
  refine cr_getr (pc := 21) (c := 2) (k := 9) C (by first | rfl | assumption | (simp [cg_ok]; omega)) rfl (by decide) rfl inX2_clearVectors_X2 flX2_clearVectors_42 dX2_clearVectors_21 ?_
  refine cr_iload_n (pc := 24) C dX2_clearVectors_24 rfl ?_
  refine cr_aaload (pc := 25) C rfl (by first | rfl | assumption | (simp [cg_ok]; omega)) (by omega) (by first | decide | omega) dX2_clearVectors_25 ?_
  refine cr_iload_n (pc := 26) C dX2_clearVectors_26 rfl ?_
  refine cr_iaload (pc := 27) C rfl (by first | rfl | assumption | (simp [cg_ok]; omega)) (by decide) (by first | decide | omega) dX2_clearVectors_27 ?_
  rw [cg_sb_s]
  refine cr_aload_n (pc := 28) C dX2_clearVectors_28 rfl ?_
  refine cr_getr (pc := 29) (c := 2) (k := 10) C (by first | rfl | assumption | (simp [cg_ok]; omega)) rfl (by decide) rfl inX2_clearVectors_X2 flX2_clearVectors_45 dX2_clearVectors_29 ?_
  refine cr_iload_n (pc := 32) C dX2_clearVectors_32 rfl ?_
  refine cr_aaload (pc := 33) C rfl (by first | rfl | assumption | (simp [cg_ok]; omega)) (by omega) (by first | decide | omega) dX2_clearVectors_33 ?_
  refine cr_iload_n (pc := 34) C dX2_clearVectors_34 rfl ?_
  refine cr_iaload (pc := 35) C rfl (by first | rfl | assumption | (simp [cg_ok]; omega)) (by decide) (by first | decide | omega) dX2_clearVectors_35 ?_
  rw [cg_sb_s]
  refine cr_iadd (pc := 36) C dX2_clearVectors_36 ?_
  refine cr_iadd (pc := 37) C dX2_clearVectors_37 ?_
  refine cr_istore_n2 (pc := 38) C dX2_clearVectors_38 (by decide) rfl ?_
  refine cr_aload_n (pc := 39) C dX2_clearVectors_39 rfl ?_
  refine cr_getr (pc := 40) (c := 2) (k := 9) C (by first | rfl | assumption | (simp [cg_ok]; omega)) rfl (by decide) rfl inX2_clearVectors_X2 flX2_clearVectors_42 dX2_clearVectors_40 ?_
  refine cr_iload_n (pc := 43) C dX2_clearVectors_43 rfl ?_
  refine cr_aaload (pc := 44) C rfl (by first | rfl | assumption | (simp [cg_ok]; omega)) (by omega) (by first | decide | omega) dX2_clearVectors_44 ?_
  refine cr_iload_n (pc := 45) C dX2_clearVectors_45 rfl ?_
  refine cr_iconst (pc := 46) (v := nI 0) C dX2_clearVectors_46 (by decide) ?_
  refine cr_iastore (pc := 47) C rfl (by first | rfl | assumption | (simp [cg_ok]; omega)) (by decide) (by first | decide | omega) dX2_clearVectors_47 ?_
  rw [cg_up_sb]
  refine cr_aload_n (pc := 48) C dX2_clearVectors_48 rfl ?_
  refine cr_getr (pc := 49) (c := 2) (k := 10) C (by first | rfl | assumption | (simp [cg_ok]; omega)) rfl (by decide) rfl inX2_clearVectors_X2 flX2_clearVectors_45 dX2_clearVectors_49 ?_
  refine cr_iload_n (pc := 52) C dX2_clearVectors_52 rfl ?_
  refine cr_aaload (pc := 53) C rfl (by first | rfl | assumption | (simp [cg_ok]; omega)) (by omega) (by first | decide | omega) dX2_clearVectors_53 ?_
  refine cr_iload_n (pc := 54) C dX2_clearVectors_54 rfl ?_
  refine cr_iconst (pc := 55) (v := nI 0) C dX2_clearVectors_55 (by decide) ?_
  refine cr_iastore (pc := 56) C rfl (by first | rfl | assumption | (simp [cg_ok]; omega)) (by decide) (by first | decide | omega) dX2_clearVectors_56 ?_
  rw [cg_up_sb]
  refine cr_iinc3 (pc := 57) (v := nI 3) C dX2_clearVectors_57 (by decide) (by decide) rfl ?_
  refine cr_goto (pc := 60) (tgt := 14) C dX2_clearVectors_60 (by decide) ?_
  refine cr_iload_n (pc := 14) C dX2_clearVectors_14 rfl ?_
  refine cr_iconst (pc := 15) (v := nI 3) C dX2_clearVectors_15 (by decide) ?_
  refine cr_icmp_ge_t (pc := 16) (tgt := 63) C dX2_clearVectors_16 (by decide) (by decide) ?_
  refine cr_iload_n (pc := 63) C dX2_clearVectors_63 rfl ?_
  refine cr_ireturn (pc := 64) C X dX2_clearVectors_64 ?_
  exact ⟨rfl, rfl⟩
set_option maxRecDepth 100000 in
set_option maxHeartbeats 4000000 in
theorem sp_cV0 {M : cg_M} {P : Nat → Int32} {x : Int32} (h : ¬ cg_in x 4) : cg_D yX2_clearVectors wsX2_clearVectors rmX2_clearVectors [.inr (.inr (0, 0, 0, 0)), .inl (x)] (cg_sb M 0 P) (some (.inl (-2))) ((cg_sb M 0 P)) := by
  refine cg_S_of (cc := cX2_clearVectors) (maxL := 4) (ret := (some .int)) (ls0 := [some (.inr (.inr (0, 0, 0, 0))), some (.inl (x)), none, none]) RX2 rfl (by decide) rfl rfl (Nat.le_of_ble_eq_true rfl) (fun E C X => ?_)
  refine cr_iload_n (pc := 0) C dX2_clearVectors_0 rfl ?_
  refine cr_dN (pc := 1) C (sp_isClient0 h) rfl gX2_clearVectors_X3_isClient_n59 rfl dX2_clearVectors_1 neX3_isClient isX2_clearVectors_X3_isClient hsX3_isClient rfl ⟨rfl, rfl, Nat.le_of_ble_eq_true rfl, Nat.le_of_ble_eq_true rfl⟩ (Nat.le_of_ble_eq_true rfl) rfl ?_
  refine cr_if_ne_f (pc := 4) (tgt := 10) C dX2_clearVectors_4 (by decide) (by decide) ?_
  refine cr_bipush (pc := 7) (v := (-2)) C dX2_clearVectors_7 (by decide) ?_
  refine cr_ireturn (pc := 9) C X dX2_clearVectors_9 ?_
  exact ⟨rfl, rfl⟩
set_option maxRecDepth 100000 in
set_option maxHeartbeats 4000000 in
theorem sp_merge {M : cg_M} {P : Nat → Int32} {a b : Nat} {q r : cg_L} (hq : cg_ok q = true) (hr : cg_ok r = true) (h1 : cg_ai q = some (0, 3, fun j => a + j)) (h2 : cg_ai r = some (0, 3, fun j => b + j)) : cg_D yX2_merge wsX2_merge rmX2_merge [.inr (.inr (q)), .inr (.inr (r))] (cg_sb M 0 P) (none) (cg_sb M 0 (cg_mg a b P)) := by
  refine cg_S_of (cc := cX2_merge) (maxL := 3) (ret := none) (ls0 := [some (.inr (.inr (q))), some (.inr (.inr (r))), none]) RX2 rfl (by decide) rfl rfl (Nat.le_of_ble_eq_true rfl) (fun E C X => ?_)
  refine cr_iconst (pc := 0) (v := nI 0) C dX2_merge_0 (by decide) ?_
  refine cr_istore_n2 (pc := 1) C dX2_merge_1 (by decide) rfl ?_
  refine cr_iload_n (pc := 2) C dX2_merge_2 rfl ?_
  refine cr_iconst (pc := 3) (v := nI 3) C dX2_merge_3 (by decide) ?_
  refine cr_icmp_ge_f (pc := 4) (tgt := 25) C dX2_merge_4 (by decide) (by decide) ?_
  refine cr_aload_n (pc := 7) C dX2_merge_7 rfl ?_
  refine cr_iload_n (pc := 8) C dX2_merge_8 rfl ?_
  refine cr_aload_n (pc := 9) C dX2_merge_9 rfl ?_
  refine cr_iload_n (pc := 10) C dX2_merge_10 rfl ?_
  refine cr_iaload (pc := 11) C (by assumption) (by first | rfl | assumption | (simp [cg_ok]; omega)) (by decide) (by first | decide | omega) dX2_merge_11 ?_
  rw [cg_sb_s]
  refine cr_aload_n (pc := 12) C dX2_merge_12 rfl ?_
  refine cr_iload_n (pc := 13) C dX2_merge_13 rfl ?_
  refine cr_iaload (pc := 14) C (by assumption) (by first | rfl | assumption | (simp [cg_ok]; omega)) (by decide) (by first | decide | omega) dX2_merge_14 ?_
  rw [cg_sb_s]
  refine cr_max (pc := 15) C dX2_merge_15 mmX2_merge_max ⟨Nat.le_of_ble_eq_true rfl, Nat.le_of_ble_eq_true rfl⟩ (Nat.le_of_ble_eq_true rfl) ?_
  refine cr_iastore (pc := 18) C (by assumption) (by first | rfl | assumption | (simp [cg_ok]; omega)) (by decide) (by first | decide | omega) dX2_merge_18 ?_
  rw [cg_up_sb]
  refine cr_iinc2 (pc := 19) (v := nI 1) C dX2_merge_19 (by decide) (by decide) rfl ?_
  refine cr_goto (pc := 22) (tgt := 2) C dX2_merge_22 (by decide) ?_
  refine cr_iload_n (pc := 2) C dX2_merge_2 rfl ?_
  refine cr_iconst (pc := 3) (v := nI 3) C dX2_merge_3 (by decide) ?_
  refine cr_icmp_ge_f (pc := 4) (tgt := 25) C dX2_merge_4 (by decide) (by decide) ?_
  refine cr_aload_n (pc := 7) C dX2_merge_7 rfl ?_
  refine cr_iload_n (pc := 8) C dX2_merge_8 rfl ?_
  refine cr_aload_n (pc := 9) C dX2_merge_9 rfl ?_
  refine cr_iload_n (pc := 10) C dX2_merge_10 rfl ?_
  refine cr_iaload (pc := 11) C (by assumption) (by first | rfl | assumption | (simp [cg_ok]; omega)) (by decide) (by first | decide | omega) dX2_merge_11 ?_
  rw [cg_sb_s]
  refine cr_aload_n (pc := 12) C dX2_merge_12 rfl ?_
  refine cr_iload_n (pc := 13) C dX2_merge_13 rfl ?_
  refine cr_iaload (pc := 14) C (by assumption) (by first | rfl | assumption | (simp [cg_ok]; omega)) (by decide) (by first | decide | omega) dX2_merge_14 ?_
  rw [cg_sb_s]
  refine cr_max (pc := 15) C dX2_merge_15 mmX2_merge_max ⟨Nat.le_of_ble_eq_true rfl, Nat.le_of_ble_eq_true rfl⟩ (Nat.le_of_ble_eq_true rfl) ?_
  refine cr_iastore (pc := 18) C (by assumption) (by first | rfl | assumption | (simp [cg_ok]; omega)) (by decide) (by first | decide | omega) dX2_merge_18 ?_
  rw [cg_up_sb]
  refine cr_iinc2 (pc := 19) (v := nI 2) C dX2_merge_19 (by decide) (by decide) rfl ?_
  refine cr_goto (pc := 22) (tgt := 2) C dX2_merge_22 (by decide) ?_
  refine cr_iload_n (pc := 2) C dX2_merge_2 rfl ?_
  refine cr_iconst (pc := 3) (v := nI 3) C dX2_merge_3 (by decide) ?_
  refine cr_icmp_ge_f (pc := 4) (tgt := 25) C dX2_merge_4 (by decide) (by decide) ?_
  refine cr_aload_n (pc := 7) C dX2_merge_7 rfl ?_
  refine cr_iload_n (pc := 8) C dX2_merge_8 rfl ?_
  refine cr_aload_n (pc := 9) C dX2_merge_9 rfl ?_
  refine cr_iload_n (pc := 10) C dX2_merge_10 rfl ?_
  refine cr_iaload (pc := 11) C (by assumption) (by first | rfl | assumption | (simp [cg_ok]; omega)) (by decide) (by first | decide | omega) dX2_merge_11 ?_
  rw [cg_sb_s]
  refine cr_aload_n (pc := 12) C dX2_merge_12 rfl ?_
  refine cr_iload_n (pc := 13) C dX2_merge_13 rfl ?_
  refine cr_iaload (pc := 14) C (by assumption) (by first | rfl | assumption | (simp [cg_ok]; omega)) (by decide) (by first | decide | omega) dX2_merge_14 ?_
  rw [cg_sb_s]
  refine cr_max (pc := 15) C dX2_merge_15 mmX2_merge_max ⟨Nat.le_of_ble_eq_true rfl, Nat.le_of_ble_eq_true rfl⟩ (Nat.le_of_ble_eq_true rfl) ?_
  refine cr_iastore (pc := 18) C (by assumption) (by first | rfl | assumption | (simp [cg_ok]; omega)) (by decide) (by first | decide | omega) dX2_merge_18 ?_
  rw [cg_up_sb]
  refine cr_iinc2 (pc := 19) (v := nI 3) C dX2_merge_19 (by decide) (by decide) rfl ?_
  refine cr_goto (pc := 22) (tgt := 2) C dX2_merge_22 (by decide) ?_
  refine cr_iload_n (pc := 2) C dX2_merge_2 rfl ?_
  refine cr_iconst (pc := 3) (v := nI 3) C dX2_merge_3 (by decide) ?_
  refine cr_icmp_ge_t (pc := 4) (tgt := 25) C dX2_merge_4 (by decide) (by decide) ?_
  refine cr_return (pc := 25) C X dX2_merge_25 ?_
  exact ⟨rfl, rfl⟩
