/-! ===== State: readKey, writeKey ===== -/
theorem cg_b1_lt {P : Nat → Int32} {u g j : Nat} (h : j < 341) : cg_b1 u g P j = P j := by
  unfold cg_b1
  split
  · rw [cg_un (by omega)]
  · rfl
theorem cg_cb_lt {P : Nat → Int32} {u j : Nat} (h : j < 341) : cg_cb P u j = P j := by
  unfold cg_cb
  rw [cg_b1_lt h, cg_b1_lt h, cg_b1_lt h, cg_b1_lt h]
theorem cg_mg_ne {P : Nat → Int32} {a b j : Nat} (h : j < b ∨ b + 3 ≤ j) : cg_mg a b P j = P j := by
  unfold cg_mg cg_m1
  rw [cg_un (by omega), cg_un (by omega), cg_un (by omega)]
theorem cg_Iw_of {P P' : Nat → Int32} {n : Nat} (h : cg_Iw P n) (he : ∀ j, 12 ≤ j → j < 313 → P' j = P j) : cg_Iw P' n := by
  refine ⟨h.1, by rw [he 12 (by omega) (by omega)]; exact h.2.1, fun w hw => ?_⟩
  obtain ⟨o, ho, ho2⟩ := h.2.2 w hw
  have := h.1
  exact ⟨o, ho, by rw [he _ (by omega) (by omega)]; exact ho2⟩
def cg_rd (P : Nat → Int32) (c r : Nat) : Nat → Int32 := cg_mg (3 * r) (314 + 7 * c) (cg_cb P (cg_uR P c (2 ^ r)))
theorem cg_rd_lt {P : Nat → Int32} {c r j : Nat} (h : j < 313) : cg_rd P c r j = P j := by
  unfold cg_rd
  rw [cg_mg_ne (by omega), cg_cb_lt (by omega)]
def cg_wr (A : Nat → Int32) (c r k v n : Nat) : Nat → Int32 := upd (upd (upd (upd (upd (upd (upd (upd (upd A (9 + r) (A (9 + r) + nI 1)) (3 * r + r) (A (3 * r + r) + nI 1)) (317 + 7 * c + r) (A (3 * r + r) + nI 1)) (13 + 5 * n) (nI r)) (14 + 5 * n) (A (3 * r + r) + nI 1)) (15 + 5 * n) (nI k)) (16 + 5 * n) (nI v)) (17 + 5 * n) (A (9 + r) + nI 1)) 12 (nI (n + 1))
set_option maxRecDepth 100000 in
set_option maxHeartbeats 4000000 in
theorem sp_rK3 {M : cg_M} {P : Nat → Int32} {c r k : Nat} (hc : c < 4) (hr : r < 3) (hk : k < 4) (h : cg_rA P c (2 ^ r) = false) : cg_D yX2_readKey wsX2_readKey rmX2_readKey [.inr (.inr (0, 0, 0, 0)), .inl (nI c), .inl (nI r), .inl (nI k)] (cg_sb M 0 P) (some (.inl (-3))) ((cg_sb M 0 P)) := by
  refine cg_S_of (cc := cX2_readKey) (maxL := 5) (ret := (some .int)) (ls0 := [some (.inr (.inr (0, 0, 0, 0))), some (.inl (nI c)), some (.inl (nI r)), some (.inl (nI k)), none]) RX2 rfl (by decide) rfl rfl (Nat.le_of_ble_eq_true rfl) (fun E C X => ?_)
  refine cr_iload_n (pc := 0) C dX2_readKey_0 rfl ?_
  refine cr_dN (pc := 1) C (sp_isClient1 hc) rfl gX2_readKey_X3_isClient_n59 rfl dX2_readKey_1 neX3_isClient isX2_readKey_X3_isClient hsX3_isClient rfl ⟨rfl, rfl, Nat.le_of_ble_eq_true rfl, Nat.le_of_ble_eq_true rfl⟩ (Nat.le_of_ble_eq_true rfl) rfl ?_
  refine cr_if_eq_f (pc := 4) (tgt := 21) C dX2_readKey_4 (by decide) (by decide) ?_
  refine cr_iload_n (pc := 7) C dX2_readKey_7 rfl ?_
  refine cr_dN (pc := 8) C (sp_isReplica1 hr) rfl gX2_readKey_X3_isReplica_n67 rfl dX2_readKey_8 neX3_isReplica isX2_readKey_X3_isReplica hsX3_isReplica rfl ⟨rfl, rfl, Nat.le_of_ble_eq_true rfl, Nat.le_of_ble_eq_true rfl⟩ (Nat.le_of_ble_eq_true rfl) rfl ?_
  refine cr_if_eq_f (pc := 11) (tgt := 21) C dX2_readKey_11 (by decide) (by decide) ?_
  refine cr_iload_n (pc := 14) C dX2_readKey_14 rfl ?_
  refine cr_dN (pc := 15) C (sp_isKey1 hk) rfl gX2_readKey_X3_isKey_n70 rfl dX2_readKey_15 neX3_isKey isX2_readKey_X3_isKey hsX3_isKey rfl ⟨rfl, rfl, Nat.le_of_ble_eq_true rfl, Nat.le_of_ble_eq_true rfl⟩ (Nat.le_of_ble_eq_true rfl) rfl ?_
  refine cr_if_ne_t (pc := 18) (tgt := 24) C dX2_readKey_18 (by decide) (by decide) ?_
  refine cr_aload_n (pc := 24) C dX2_readKey_24 rfl ?_
  refine cr_iload_n (pc := 25) C dX2_readKey_25 rfl ?_
  refine cr_iload_n (pc := 26) C dX2_readKey_26 rfl ?_
  refine cr_dN (pc := 27) C (sp_only hr) rfl gX2_readKey_X3_only_n73 rfl dX2_readKey_27 neX3_only isX2_readKey_X3_only hsX3_only rfl ⟨rfl, rfl, Nat.le_of_ble_eq_true rfl, Nat.le_of_ble_eq_true rfl⟩ (Nat.le_of_ble_eq_true rfl) rfl ?_
  refine cr_dV (pc := 30) C (sp_uR hc (cg_two3 hr)) rfl gX2_readKey_X2_unmetByRead rfl dX2_readKey_30 (by first | rfl | assumption | (simp [cg_ok]; omega)) rfl hvX2_unmetByRead rfl ⟨rfl, rfl, Nat.le_of_ble_eq_true rfl, Nat.le_of_ble_eq_true rfl⟩ (Nat.le_of_ble_eq_true rfl) rfl ?_
  refine cr_istore4 (pc := 33) C dX2_readKey_33 (by decide) rfl ?_
  refine cr_iload (pc := 35) C dX2_readKey_35 rfl ?_
  refine cr_aload_n (pc := 37) C dX2_readKey_37 rfl ?_
  refine cr_getr (pc := 38) (c := 2) (k := 8) C (by first | rfl | assumption | (simp [cg_ok]; omega)) rfl (by decide) rfl inX2_readKey_X2 flX2_readKey_39 dX2_readKey_38 ?_
  refine cr_iload_n (pc := 41) C dX2_readKey_41 rfl ?_
  refine cr_iaload (pc := 42) C rfl (by first | rfl | assumption | (simp [cg_ok]; omega)) (by omega) (by first | decide | omega) dX2_readKey_42 ?_
  rw [cg_sb_s]
  refine cr_iand (pc := 43) C dX2_readKey_43 ?_
  refine cr_if_eq_f (pc := 44) (tgt := 50) C dX2_readKey_44 (by decide) (of_decide_eq_false h) ?_
  refine cr_bipush (pc := 47) (v := (-3)) C dX2_readKey_47 (by decide) ?_
  refine cr_ireturn (pc := 49) C X dX2_readKey_49 ?_
  exact ⟨rfl, rfl⟩
set_option maxRecDepth 100000 in
set_option maxHeartbeats 4000000 in
theorem sp_rK1 {M : cg_M} {P : Nat → Int32} {c r k n : Nat} (hc : c < 4) (hr : r < 3) (hk : k < 4) (h : cg_rA P c (2 ^ r) = true) (hI : cg_Iw P n) : cg_D yX2_readKey wsX2_readKey rmX2_readKey [.inr (.inr (0, 0, 0, 0)), .inl (nI c), .inl (nI r), .inl (nI k)] (cg_sb M 0 P) (some (.inl (cg_vl (cg_rd P c r) r k n))) (cg_sb M 0 (cg_rd P c r)) := by
  refine cg_S_of (cc := cX2_readKey) (maxL := 5) (ret := (some .int)) (ls0 := [some (.inr (.inr (0, 0, 0, 0))), some (.inl (nI c)), some (.inl (nI r)), some (.inl (nI k)), none]) RX2 rfl (by decide) rfl rfl (Nat.le_of_ble_eq_true rfl) (fun E C X => ?_)
  refine cr_iload_n (pc := 0) C dX2_readKey_0 rfl ?_
  refine cr_dN (pc := 1) C (sp_isClient1 hc) rfl gX2_readKey_X3_isClient_n59 rfl dX2_readKey_1 neX3_isClient isX2_readKey_X3_isClient hsX3_isClient rfl ⟨rfl, rfl, Nat.le_of_ble_eq_true rfl, Nat.le_of_ble_eq_true rfl⟩ (Nat.le_of_ble_eq_true rfl) rfl ?_
  refine cr_if_eq_f (pc := 4) (tgt := 21) C dX2_readKey_4 (by decide) (by decide) ?_
  refine cr_iload_n (pc := 7) C dX2_readKey_7 rfl ?_
  refine cr_dN (pc := 8) C (sp_isReplica1 hr) rfl gX2_readKey_X3_isReplica_n67 rfl dX2_readKey_8 neX3_isReplica isX2_readKey_X3_isReplica hsX3_isReplica rfl ⟨rfl, rfl, Nat.le_of_ble_eq_true rfl, Nat.le_of_ble_eq_true rfl⟩ (Nat.le_of_ble_eq_true rfl) rfl ?_
  refine cr_if_eq_f (pc := 11) (tgt := 21) C dX2_readKey_11 (by decide) (by decide) ?_
  refine cr_iload_n (pc := 14) C dX2_readKey_14 rfl ?_
  refine cr_dN (pc := 15) C (sp_isKey1 hk) rfl gX2_readKey_X3_isKey_n70 rfl dX2_readKey_15 neX3_isKey isX2_readKey_X3_isKey hsX3_isKey rfl ⟨rfl, rfl, Nat.le_of_ble_eq_true rfl, Nat.le_of_ble_eq_true rfl⟩ (Nat.le_of_ble_eq_true rfl) rfl ?_
  refine cr_if_ne_t (pc := 18) (tgt := 24) C dX2_readKey_18 (by decide) (by decide) ?_
  refine cr_aload_n (pc := 24) C dX2_readKey_24 rfl ?_
  refine cr_iload_n (pc := 25) C dX2_readKey_25 rfl ?_
  refine cr_iload_n (pc := 26) C dX2_readKey_26 rfl ?_
  refine cr_dN (pc := 27) C (sp_only hr) rfl gX2_readKey_X3_only_n73 rfl dX2_readKey_27 neX3_only isX2_readKey_X3_only hsX3_only rfl ⟨rfl, rfl, Nat.le_of_ble_eq_true rfl, Nat.le_of_ble_eq_true rfl⟩ (Nat.le_of_ble_eq_true rfl) rfl ?_
  refine cr_dV (pc := 30) C (sp_uR hc (cg_two3 hr)) rfl gX2_readKey_X2_unmetByRead rfl dX2_readKey_30 (by first | rfl | assumption | (simp [cg_ok]; omega)) rfl hvX2_unmetByRead rfl ⟨rfl, rfl, Nat.le_of_ble_eq_true rfl, Nat.le_of_ble_eq_true rfl⟩ (Nat.le_of_ble_eq_true rfl) rfl ?_
  refine cr_istore4 (pc := 33) C dX2_readKey_33 (by decide) rfl ?_
  refine cr_iload (pc := 35) C dX2_readKey_35 rfl ?_
  refine cr_aload_n (pc := 37) C dX2_readKey_37 rfl ?_
  refine cr_getr (pc := 38) (c := 2) (k := 8) C (by first | rfl | assumption | (simp [cg_ok]; omega)) rfl (by decide) rfl inX2_readKey_X2 flX2_readKey_39 dX2_readKey_38 ?_
  refine cr_iload_n (pc := 41) C dX2_readKey_41 rfl ?_
  refine cr_iaload (pc := 42) C rfl (by first | rfl | assumption | (simp [cg_ok]; omega)) (by omega) (by first | decide | omega) dX2_readKey_42 ?_
  rw [cg_sb_s]
  refine cr_iand (pc := 43) C dX2_readKey_43 ?_
  refine cr_if_eq_t (pc := 44) (tgt := 50) C dX2_readKey_44 (by decide) (of_decide_eq_true h) ?_
  refine cr_aload_n (pc := 50) C dX2_readKey_50 rfl ?_
  refine cr_iload (pc := 51) C dX2_readKey_51 rfl ?_
  refine cr_dV (pc := 53) C (sp_cb (cg_uR_lt _ _ _)) rfl gX2_readKey_X2_countBreaches rfl dX2_readKey_53 (by first | rfl | assumption | (simp [cg_ok]; omega)) rfl hvX2_countBreaches rfl ⟨rfl, rfl, Nat.le_of_ble_eq_true rfl, Nat.le_of_ble_eq_true rfl⟩ (Nat.le_of_ble_eq_true rfl) rfl ?_
  refine cr_aload_n (pc := 56) C dX2_readKey_56 rfl ?_
  refine cr_getr (pc := 57) (c := 2) (k := 6) C (by first | rfl | assumption | (simp [cg_ok]; omega)) rfl (by decide) rfl inX2_readKey_X2 flX2_readKey_33 dX2_readKey_57 ?_
  refine cr_iload_n (pc := 60) C dX2_readKey_60 rfl ?_
  refine cr_aaload (pc := 61) C rfl (by first | rfl | assumption | (simp [cg_ok]; omega)) (by omega) (by first | decide | omega) dX2_readKey_61 ?_
  refine cr_aload_n (pc := 62) C dX2_readKey_62 rfl ?_
  refine cr_getr (pc := 63) (c := 2) (k := 9) C (by first | rfl | assumption | (simp [cg_ok]; omega)) rfl (by decide) rfl inX2_readKey_X2 flX2_readKey_42 dX2_readKey_63 ?_
  refine cr_iload_n (pc := 66) C dX2_readKey_66 rfl ?_
  refine cr_aaload (pc := 67) C rfl (by first | rfl | assumption | (simp [cg_ok]; omega)) (by omega) (by first | decide | omega) dX2_readKey_67 ?_
  refine cr_dS (pc := 68) C (sp_merge (by simp [cg_ok]; omega) (by simp [cg_ok]; omega) rfl rfl) rfl gX2_readKey_X2_merge rfl dX2_readKey_68 hsX2_merge rfl ⟨rfl, rfl, Nat.le_of_ble_eq_true rfl, Nat.le_of_ble_eq_true rfl⟩ (Nat.le_of_ble_eq_true rfl) rfl ?_
  refine cr_aload_n (pc := 71) C dX2_readKey_71 rfl ?_
  refine cr_iload_n (pc := 72) C dX2_readKey_72 rfl ?_
  refine cr_iload_n (pc := 73) C dX2_readKey_73 rfl ?_
  refine cr_dV (pc := 74) C (sp_valueAt hr (cg_Iw_of hI (fun j _ hj => cg_rd_lt hj))) rfl gX2_readKey_X2_valueAt rfl dX2_readKey_74 (by first | rfl | assumption | (simp [cg_ok]; omega)) rfl hvX2_valueAt rfl ⟨rfl, rfl, Nat.le_of_ble_eq_true rfl, Nat.le_of_ble_eq_true rfl⟩ (Nat.le_of_ble_eq_true rfl) rfl ?_
  refine cr_ireturn (pc := 77) C X dX2_readKey_77 ?_
  exact ⟨rfl, rfl⟩
set_option maxRecDepth 100000 in
set_option maxHeartbeats 4000000 in
theorem sp_rK0 {M : cg_M} {P : Nat → Int32} {x y z : Int32} (h : ¬ (cg_in x 4 ∧ cg_in y 3 ∧ cg_in z 4)) : cg_D yX2_readKey wsX2_readKey rmX2_readKey [.inr (.inr (0, 0, 0, 0)), .inl (x), .inl (y), .inl (z)] (cg_sb M 0 P) (some (.inl (-2))) ((cg_sb M 0 P)) := by
  rcases Classical.em (cg_in x 4) with ⟨c, hc, rfl⟩ | hx
  rcases Classical.em (cg_in y 3) with ⟨r, hr, rfl⟩ | hy
  · refine cg_S_of (cc := cX2_readKey) (maxL := 5) (ret := (some .int)) (ls0 := [some (.inr (.inr (0, 0, 0, 0))), some (.inl (nI c)), some (.inl (nI r)), some (.inl (z)), none]) RX2 rfl (by decide) rfl rfl (Nat.le_of_ble_eq_true rfl) (fun E C X => ?_)
    refine cr_iload_n (pc := 0) C dX2_readKey_0 rfl ?_
    refine cr_dN (pc := 1) C (sp_isClient1 hc) rfl gX2_readKey_X3_isClient_n59 rfl dX2_readKey_1 neX3_isClient isX2_readKey_X3_isClient hsX3_isClient rfl ⟨rfl, rfl, Nat.le_of_ble_eq_true rfl, Nat.le_of_ble_eq_true rfl⟩ (Nat.le_of_ble_eq_true rfl) rfl ?_
    refine cr_if_eq_f (pc := 4) (tgt := 21) C dX2_readKey_4 (by decide) (by decide) ?_
    refine cr_iload_n (pc := 7) C dX2_readKey_7 rfl ?_
    refine cr_dN (pc := 8) C (sp_isReplica1 hr) rfl gX2_readKey_X3_isReplica_n67 rfl dX2_readKey_8 neX3_isReplica isX2_readKey_X3_isReplica hsX3_isReplica rfl ⟨rfl, rfl, Nat.le_of_ble_eq_true rfl, Nat.le_of_ble_eq_true rfl⟩ (Nat.le_of_ble_eq_true rfl) rfl ?_
    refine cr_if_eq_f (pc := 11) (tgt := 21) C dX2_readKey_11 (by decide) (by decide) ?_
    refine cr_iload_n (pc := 14) C dX2_readKey_14 rfl ?_
    refine cr_dN (pc := 15) C (sp_isKey0 (fun q => h ⟨⟨_, hc, rfl⟩, ⟨_, hr, rfl⟩, q⟩)) rfl gX2_readKey_X3_isKey_n70 rfl dX2_readKey_15 neX3_isKey isX2_readKey_X3_isKey hsX3_isKey rfl ⟨rfl, rfl, Nat.le_of_ble_eq_true rfl, Nat.le_of_ble_eq_true rfl⟩ (Nat.le_of_ble_eq_true rfl) rfl ?_
    refine cr_if_ne_f (pc := 18) (tgt := 24) C dX2_readKey_18 (by decide) (by decide) ?_
    refine cr_bipush (pc := 21) (v := (-2)) C dX2_readKey_21 (by decide) ?_
    refine cr_ireturn (pc := 23) C X dX2_readKey_23 ?_
    exact ⟨rfl, rfl⟩
  · refine cg_S_of (cc := cX2_readKey) (maxL := 5) (ret := (some .int)) (ls0 := [some (.inr (.inr (0, 0, 0, 0))), some (.inl (nI c)), some (.inl (y)), some (.inl (z)), none]) RX2 rfl (by decide) rfl rfl (Nat.le_of_ble_eq_true rfl) (fun E C X => ?_)
    refine cr_iload_n (pc := 0) C dX2_readKey_0 rfl ?_
    refine cr_dN (pc := 1) C (sp_isClient1 hc) rfl gX2_readKey_X3_isClient_n59 rfl dX2_readKey_1 neX3_isClient isX2_readKey_X3_isClient hsX3_isClient rfl ⟨rfl, rfl, Nat.le_of_ble_eq_true rfl, Nat.le_of_ble_eq_true rfl⟩ (Nat.le_of_ble_eq_true rfl) rfl ?_
    refine cr_if_eq_f (pc := 4) (tgt := 21) C dX2_readKey_4 (by decide) (by decide) ?_
    refine cr_iload_n (pc := 7) C dX2_readKey_7 rfl ?_
    refine cr_dN (pc := 8) C (sp_isReplica0 hy) rfl gX2_readKey_X3_isReplica_n67 rfl dX2_readKey_8 neX3_isReplica isX2_readKey_X3_isReplica hsX3_isReplica rfl ⟨rfl, rfl, Nat.le_of_ble_eq_true rfl, Nat.le_of_ble_eq_true rfl⟩ (Nat.le_of_ble_eq_true rfl) rfl ?_
    refine cr_if_eq_t (pc := 11) (tgt := 21) C dX2_readKey_11 (by decide) (by decide) ?_
    refine cr_bipush (pc := 21) (v := (-2)) C dX2_readKey_21 (by decide) ?_
    refine cr_ireturn (pc := 23) C X dX2_readKey_23 ?_
    exact ⟨rfl, rfl⟩
  · refine cg_S_of (cc := cX2_readKey) (maxL := 5) (ret := (some .int)) (ls0 := [some (.inr (.inr (0, 0, 0, 0))), some (.inl (x)), some (.inl (y)), some (.inl (z)), none]) RX2 rfl (by decide) rfl rfl (Nat.le_of_ble_eq_true rfl) (fun E C X => ?_)
    refine cr_iload_n (pc := 0) C dX2_readKey_0 rfl ?_
    refine cr_dN (pc := 1) C (sp_isClient0 hx) rfl gX2_readKey_X3_isClient_n59 rfl dX2_readKey_1 neX3_isClient isX2_readKey_X3_isClient hsX3_isClient rfl ⟨rfl, rfl, Nat.le_of_ble_eq_true rfl, Nat.le_of_ble_eq_true rfl⟩ (Nat.le_of_ble_eq_true rfl) rfl ?_
    refine cr_if_eq_t (pc := 4) (tgt := 21) C dX2_readKey_4 (by decide) (by decide) ?_
    refine cr_bipush (pc := 21) (v := (-2)) C dX2_readKey_21 (by decide) ?_
    refine cr_ireturn (pc := 23) C X dX2_readKey_23 ?_
    exact ⟨rfl, rfl⟩
set_option maxRecDepth 100000 in
set_option maxHeartbeats 4000000 in
theorem sp_wK3 {M : cg_M} {P : Nat → Int32} {c r k v : Nat} (hc : c < 4) (hr : r < 3) (hk : k < 4) (hv : v < 100) (h : cg_wA P c r = false) : cg_D yX2_writeKey wsX2_writeKey rmX2_writeKey [.inr (.inr (0, 0, 0, 0)), .inl (nI c), .inl (nI r), .inl (nI k), .inl (nI v)] (cg_sb M 0 P) (some (.inl (-3))) ((cg_sb M 0 P)) := by
  refine cg_S_of (cc := cX2_writeKey) (maxL := 6) (ret := (some .int)) (ls0 := [some (.inr (.inr (0, 0, 0, 0))), some (.inl (nI c)), some (.inl (nI r)), some (.inl (nI k)), some (.inl (nI v)), none]) RX2 rfl (by decide) rfl rfl (Nat.le_of_ble_eq_true rfl) (fun E C X => ?_)
  refine cr_iload_n (pc := 0) C dX2_writeKey_0 rfl ?_
  refine cr_dN (pc := 1) C (sp_isClient1 hc) rfl gX2_writeKey_X3_isClient_n59 rfl dX2_writeKey_1 neX3_isClient isX2_writeKey_X3_isClient hsX3_isClient rfl ⟨rfl, rfl, Nat.le_of_ble_eq_true rfl, Nat.le_of_ble_eq_true rfl⟩ (Nat.le_of_ble_eq_true rfl) rfl ?_
  refine cr_if_eq_f (pc := 4) (tgt := 31) C dX2_writeKey_4 (by decide) (by decide) ?_
  refine cr_iload_n (pc := 7) C dX2_writeKey_7 rfl ?_
  refine cr_dN (pc := 8) C (sp_isReplica1 hr) rfl gX2_writeKey_X3_isReplica_n67 rfl dX2_writeKey_8 neX3_isReplica isX2_writeKey_X3_isReplica hsX3_isReplica rfl ⟨rfl, rfl, Nat.le_of_ble_eq_true rfl, Nat.le_of_ble_eq_true rfl⟩ (Nat.le_of_ble_eq_true rfl) rfl ?_
  refine cr_if_eq_f (pc := 11) (tgt := 31) C dX2_writeKey_11 (by decide) (by decide) ?_
  refine cr_iload_n (pc := 14) C dX2_writeKey_14 rfl ?_
  refine cr_dN (pc := 15) C (sp_isKey1 hk) rfl gX2_writeKey_X3_isKey_n70 rfl dX2_writeKey_15 neX3_isKey isX2_writeKey_X3_isKey hsX3_isKey rfl ⟨rfl, rfl, Nat.le_of_ble_eq_true rfl, Nat.le_of_ble_eq_true rfl⟩ (Nat.le_of_ble_eq_true rfl) rfl ?_
  refine cr_if_eq_f (pc := 18) (tgt := 31) C dX2_writeKey_18 (by decide) (by decide) ?_
  refine cr_iload (pc := 21) C dX2_writeKey_21 rfl ?_
  refine cr_bipush (pc := 23) (v := nI 100) C dX2_writeKey_23 (by decide) ?_
  refine cr_dN (pc := 25) C (sp_isBelow1 hv (by decide)) rfl gX2_writeKey_X3_isBelow_n63 rfl dX2_writeKey_25 neX3_isBelow isX2_writeKey_X3_isBelow hsX3_isBelow rfl ⟨rfl, rfl, Nat.le_of_ble_eq_true rfl, Nat.le_of_ble_eq_true rfl⟩ (Nat.le_of_ble_eq_true rfl) rfl ?_
  refine cr_if_ne_t (pc := 28) (tgt := 34) C dX2_writeKey_28 (by decide) (by decide) ?_
  refine cr_aload_n (pc := 34) C dX2_writeKey_34 rfl ?_
  refine cr_iload_n (pc := 35) C dX2_writeKey_35 rfl ?_
  refine cr_iload_n (pc := 36) C dX2_writeKey_36 rfl ?_
  refine cr_dV (pc := 37) C (sp_uW hc hr) rfl gX2_writeKey_X2_unmetByWrite rfl dX2_writeKey_37 (by first | rfl | assumption | (simp [cg_ok]; omega)) rfl hvX2_unmetByWrite rfl ⟨rfl, rfl, Nat.le_of_ble_eq_true rfl, Nat.le_of_ble_eq_true rfl⟩ (Nat.le_of_ble_eq_true rfl) rfl ?_
  refine cr_istore5 (pc := 40) C dX2_writeKey_40 (by decide) rfl ?_
  refine cr_iload (pc := 42) C dX2_writeKey_42 rfl ?_
  refine cr_aload_n (pc := 44) C dX2_writeKey_44 rfl ?_
  refine cr_getr (pc := 45) (c := 2) (k := 8) C (by first | rfl | assumption | (simp [cg_ok]; omega)) rfl (by decide) rfl inX2_writeKey_X2 flX2_writeKey_39 dX2_writeKey_45 ?_
  refine cr_iload_n (pc := 48) C dX2_writeKey_48 rfl ?_
  refine cr_iaload (pc := 49) C rfl (by first | rfl | assumption | (simp [cg_ok]; omega)) (by omega) (by first | decide | omega) dX2_writeKey_49 ?_
  rw [cg_sb_s]
  refine cr_iand (pc := 50) C dX2_writeKey_50 ?_
  refine cr_if_eq_f (pc := 51) (tgt := 57) C dX2_writeKey_51 (by decide) (of_decide_eq_false h) ?_
  refine cr_bipush (pc := 54) (v := (-3)) C dX2_writeKey_54 (by decide) ?_
  refine cr_ireturn (pc := 56) C X dX2_writeKey_56 ?_
  exact ⟨rfl, rfl⟩
set_option maxRecDepth 100000 in
set_option maxHeartbeats 4000000 in
theorem sp_wK4 {M : cg_M} {P : Nat → Int32} {c r k v : Nat} (hc : c < 4) (hr : r < 3) (hk : k < 4) (hv : v < 100) (h : cg_wA P c r = true) (hn : P 12 = nI 60) : cg_D yX2_writeKey wsX2_writeKey rmX2_writeKey [.inr (.inr (0, 0, 0, 0)), .inl (nI c), .inl (nI r), .inl (nI k), .inl (nI v)] (cg_sb M 0 P) (some (.inl (-4))) ((cg_sb M 0 P)) := by
  refine cg_S_of (cc := cX2_writeKey) (maxL := 6) (ret := (some .int)) (ls0 := [some (.inr (.inr (0, 0, 0, 0))), some (.inl (nI c)), some (.inl (nI r)), some (.inl (nI k)), some (.inl (nI v)), none]) RX2 rfl (by decide) rfl rfl (Nat.le_of_ble_eq_true rfl) (fun E C X => ?_)
  refine cr_iload_n (pc := 0) C dX2_writeKey_0 rfl ?_
  refine cr_dN (pc := 1) C (sp_isClient1 hc) rfl gX2_writeKey_X3_isClient_n59 rfl dX2_writeKey_1 neX3_isClient isX2_writeKey_X3_isClient hsX3_isClient rfl ⟨rfl, rfl, Nat.le_of_ble_eq_true rfl, Nat.le_of_ble_eq_true rfl⟩ (Nat.le_of_ble_eq_true rfl) rfl ?_
  refine cr_if_eq_f (pc := 4) (tgt := 31) C dX2_writeKey_4 (by decide) (by decide) ?_
  refine cr_iload_n (pc := 7) C dX2_writeKey_7 rfl ?_
  refine cr_dN (pc := 8) C (sp_isReplica1 hr) rfl gX2_writeKey_X3_isReplica_n67 rfl dX2_writeKey_8 neX3_isReplica isX2_writeKey_X3_isReplica hsX3_isReplica rfl ⟨rfl, rfl, Nat.le_of_ble_eq_true rfl, Nat.le_of_ble_eq_true rfl⟩ (Nat.le_of_ble_eq_true rfl) rfl ?_
  refine cr_if_eq_f (pc := 11) (tgt := 31) C dX2_writeKey_11 (by decide) (by decide) ?_
  refine cr_iload_n (pc := 14) C dX2_writeKey_14 rfl ?_
  refine cr_dN (pc := 15) C (sp_isKey1 hk) rfl gX2_writeKey_X3_isKey_n70 rfl dX2_writeKey_15 neX3_isKey isX2_writeKey_X3_isKey hsX3_isKey rfl ⟨rfl, rfl, Nat.le_of_ble_eq_true rfl, Nat.le_of_ble_eq_true rfl⟩ (Nat.le_of_ble_eq_true rfl) rfl ?_
  refine cr_if_eq_f (pc := 18) (tgt := 31) C dX2_writeKey_18 (by decide) (by decide) ?_
  refine cr_iload (pc := 21) C dX2_writeKey_21 rfl ?_
  refine cr_bipush (pc := 23) (v := nI 100) C dX2_writeKey_23 (by decide) ?_
  refine cr_dN (pc := 25) C (sp_isBelow1 hv (by decide)) rfl gX2_writeKey_X3_isBelow_n63 rfl dX2_writeKey_25 neX3_isBelow isX2_writeKey_X3_isBelow hsX3_isBelow rfl ⟨rfl, rfl, Nat.le_of_ble_eq_true rfl, Nat.le_of_ble_eq_true rfl⟩ (Nat.le_of_ble_eq_true rfl) rfl ?_
  refine cr_if_ne_t (pc := 28) (tgt := 34) C dX2_writeKey_28 (by decide) (by decide) ?_
  refine cr_aload_n (pc := 34) C dX2_writeKey_34 rfl ?_
  refine cr_iload_n (pc := 35) C dX2_writeKey_35 rfl ?_
  refine cr_iload_n (pc := 36) C dX2_writeKey_36 rfl ?_
  refine cr_dV (pc := 37) C (sp_uW hc hr) rfl gX2_writeKey_X2_unmetByWrite rfl dX2_writeKey_37 (by first | rfl | assumption | (simp [cg_ok]; omega)) rfl hvX2_unmetByWrite rfl ⟨rfl, rfl, Nat.le_of_ble_eq_true rfl, Nat.le_of_ble_eq_true rfl⟩ (Nat.le_of_ble_eq_true rfl) rfl ?_
  refine cr_istore5 (pc := 40) C dX2_writeKey_40 (by decide) rfl ?_
  refine cr_iload (pc := 42) C dX2_writeKey_42 rfl ?_
  refine cr_aload_n (pc := 44) C dX2_writeKey_44 rfl ?_
  refine cr_getr (pc := 45) (c := 2) (k := 8) C (by first | rfl | assumption | (simp [cg_ok]; omega)) rfl (by decide) rfl inX2_writeKey_X2 flX2_writeKey_39 dX2_writeKey_45 ?_
  refine cr_iload_n (pc := 48) C dX2_writeKey_48 rfl ?_
  refine cr_iaload (pc := 49) C rfl (by first | rfl | assumption | (simp [cg_ok]; omega)) (by omega) (by first | decide | omega) dX2_writeKey_49 ?_
  rw [cg_sb_s]
  refine cr_iand (pc := 50) C dX2_writeKey_50 ?_
  refine cr_if_eq_t (pc := 51) (tgt := 57) C dX2_writeKey_51 (by decide) (of_decide_eq_true h) ?_
  refine cr_aload_n (pc := 57) C dX2_writeKey_57 rfl ?_
  refine cr_geti (pc := 58) (c := 2) (k := 0) C (by first | rfl | assumption | (simp [cg_ok]; omega)) rfl (by decide) rfl rfl inX2_writeKey_X2 flX2_writeKey_9 dX2_writeKey_58 ?_
  rw [cg_sb_s]
  refine cr_bipush (pc := 61) (v := nI 60) C dX2_writeKey_61 (by decide) ?_
  refine cr_icmp_lt_f (pc := 63) (tgt := 69) C dX2_writeKey_63 (by decide) (by rw [hn]; decide) ?_
  refine cr_bipush (pc := 66) (v := (-4)) C dX2_writeKey_66 (by decide) ?_
  refine cr_ireturn (pc := 68) C X dX2_writeKey_68 ?_
  exact ⟨rfl, rfl⟩
set_option maxRecDepth 100000 in
set_option maxHeartbeats 4000000 in
theorem sp_wK1 {M : cg_M} {P : Nat → Int32} {c r k v n : Nat} (hc : c < 4) (hr : r < 3) (hk : k < 4) (hv : v < 100) (h : cg_wA P c r = true) (hn : P 12 = nI n) (hn60 : n < 60) : cg_D yX2_writeKey wsX2_writeKey rmX2_writeKey [.inr (.inr (0, 0, 0, 0)), .inl (nI c), .inl (nI r), .inl (nI k), .inl (nI v)] (cg_sb M 0 P) (some (.inl (P (3 * r + r) + nI 1))) (cg_sb M 0 (cg_wr (cg_cb P (cg_uW P c r)) c r k v n)) := by
  obtain ⟨A, hA⟩ : ∃ A, A = cg_cb P (cg_uW P c r) := ⟨_, rfl⟩
  have hA12 : A 12 = nI n := by rw [hA, cg_cb_lt (by omega)]; exact hn
  refine cg_S_of (cc := cX2_writeKey) (maxL := 6) (ret := (some .int)) (ls0 := [some (.inr (.inr (0, 0, 0, 0))), some (.inl (nI c)), some (.inl (nI r)), some (.inl (nI k)), some (.inl (nI v)), none]) RX2 rfl (by decide) rfl rfl (Nat.le_of_ble_eq_true rfl) (fun E C X => ?_)
  refine cr_iload_n (pc := 0) C dX2_writeKey_0 rfl ?_
  refine cr_dN (pc := 1) C (sp_isClient1 hc) rfl gX2_writeKey_X3_isClient_n59 rfl dX2_writeKey_1 neX3_isClient isX2_writeKey_X3_isClient hsX3_isClient rfl ⟨rfl, rfl, Nat.le_of_ble_eq_true rfl, Nat.le_of_ble_eq_true rfl⟩ (Nat.le_of_ble_eq_true rfl) rfl ?_
  refine cr_if_eq_f (pc := 4) (tgt := 31) C dX2_writeKey_4 (by decide) (by decide) ?_
  refine cr_iload_n (pc := 7) C dX2_writeKey_7 rfl ?_
  refine cr_dN (pc := 8) C (sp_isReplica1 hr) rfl gX2_writeKey_X3_isReplica_n67 rfl dX2_writeKey_8 neX3_isReplica isX2_writeKey_X3_isReplica hsX3_isReplica rfl ⟨rfl, rfl, Nat.le_of_ble_eq_true rfl, Nat.le_of_ble_eq_true rfl⟩ (Nat.le_of_ble_eq_true rfl) rfl ?_
  refine cr_if_eq_f (pc := 11) (tgt := 31) C dX2_writeKey_11 (by decide) (by decide) ?_
  refine cr_iload_n (pc := 14) C dX2_writeKey_14 rfl ?_
  refine cr_dN (pc := 15) C (sp_isKey1 hk) rfl gX2_writeKey_X3_isKey_n70 rfl dX2_writeKey_15 neX3_isKey isX2_writeKey_X3_isKey hsX3_isKey rfl ⟨rfl, rfl, Nat.le_of_ble_eq_true rfl, Nat.le_of_ble_eq_true rfl⟩ (Nat.le_of_ble_eq_true rfl) rfl ?_
  refine cr_if_eq_f (pc := 18) (tgt := 31) C dX2_writeKey_18 (by decide) (by decide) ?_
  refine cr_iload (pc := 21) C dX2_writeKey_21 rfl ?_
  refine cr_bipush (pc := 23) (v := nI 100) C dX2_writeKey_23 (by decide) ?_
  refine cr_dN (pc := 25) C (sp_isBelow1 hv (by decide)) rfl gX2_writeKey_X3_isBelow_n63 rfl dX2_writeKey_25 neX3_isBelow isX2_writeKey_X3_isBelow hsX3_isBelow rfl ⟨rfl, rfl, Nat.le_of_ble_eq_true rfl, Nat.le_of_ble_eq_true rfl⟩ (Nat.le_of_ble_eq_true rfl) rfl ?_
  refine cr_if_ne_t (pc := 28) (tgt := 34) C dX2_writeKey_28 (by decide) (by decide) ?_
  refine cr_aload_n (pc := 34) C dX2_writeKey_34 rfl ?_
  refine cr_iload_n (pc := 35) C dX2_writeKey_35 rfl ?_
  refine cr_iload_n (pc := 36) C dX2_writeKey_36 rfl ?_
  refine cr_dV (pc := 37) C (sp_uW hc hr) rfl gX2_writeKey_X2_unmetByWrite rfl dX2_writeKey_37 (by first | rfl | assumption | (simp [cg_ok]; omega)) rfl hvX2_unmetByWrite rfl ⟨rfl, rfl, Nat.le_of_ble_eq_true rfl, Nat.le_of_ble_eq_true rfl⟩ (Nat.le_of_ble_eq_true rfl) rfl ?_
  refine cr_istore5 (pc := 40) C dX2_writeKey_40 (by decide) rfl ?_
  refine cr_iload (pc := 42) C dX2_writeKey_42 rfl ?_
  refine cr_aload_n (pc := 44) C dX2_writeKey_44 rfl ?_
  refine cr_getr (pc := 45) (c := 2) (k := 8) C (by first | rfl | assumption | (simp [cg_ok]; omega)) rfl (by decide) rfl inX2_writeKey_X2 flX2_writeKey_39 dX2_writeKey_45 ?_
  refine cr_iload_n (pc := 48) C dX2_writeKey_48 rfl ?_
  refine cr_iaload (pc := 49) C rfl (by first | rfl | assumption | (simp [cg_ok]; omega)) (by omega) (by first | decide | omega) dX2_writeKey_49 ?_
  rw [cg_sb_s]
  refine cr_iand (pc := 50) C dX2_writeKey_50 ?_
  refine cr_if_eq_t (pc := 51) (tgt := 57) C dX2_writeKey_51 (by decide) (of_decide_eq_true h) ?_
  refine cr_aload_n (pc := 57) C dX2_writeKey_57 rfl ?_
  refine cr_geti (pc := 58) (c := 2) (k := 0) C (by first | rfl | assumption | (simp [cg_ok]; omega)) rfl (by decide) rfl rfl inX2_writeKey_X2 flX2_writeKey_9 dX2_writeKey_58 ?_
  rw [cg_sb_s]
  refine cr_bipush (pc := 61) (v := nI 60) C dX2_writeKey_61 (by decide) ?_
  rw [hn]
  refine cr_icmp_lt_t (pc := 63) (tgt := 69) C dX2_writeKey_63 (by decide) (nI_lt hn60 (by omega)) ?_
  refine cr_aload_n (pc := 69) C dX2_writeKey_69 rfl ?_
  refine cr_iload (pc := 70) C dX2_writeKey_70 rfl ?_
  refine cr_dV (pc := 72) C (sp_cb (cg_uW_lt _ _ _)) rfl gX2_writeKey_X2_countBreaches rfl dX2_writeKey_72 (by first | rfl | assumption | (simp [cg_ok]; omega)) rfl hvX2_countBreaches rfl ⟨rfl, rfl, Nat.le_of_ble_eq_true rfl, Nat.le_of_ble_eq_true rfl⟩ (Nat.le_of_ble_eq_true rfl) rfl ?_
  rw [← hA]
  refine cr_aload_n (pc := 75) C dX2_writeKey_75 rfl ?_
  refine cr_getr (pc := 76) (c := 2) (k := 7) C (by first | rfl | assumption | (simp [cg_ok]; omega)) rfl (by decide) rfl inX2_writeKey_X2 flX2_writeKey_36 dX2_writeKey_76 ?_
  refine cr_iload_n (pc := 79) C dX2_writeKey_79 rfl ?_
  refine cr_dup2 (pc := 80) C dX2_writeKey_80 rfl rfl ?_
  refine cr_iaload (pc := 81) C rfl (by first | rfl | assumption | (simp [cg_ok]; omega)) (by omega) (by first | decide | omega) dX2_writeKey_81 ?_
  rw [cg_sb_s]
  refine cr_iconst (pc := 82) (v := nI 1) C dX2_writeKey_82 (by decide) ?_
  refine cr_iadd (pc := 83) C dX2_writeKey_83 ?_
  refine cr_iastore (pc := 84) C rfl (by first | rfl | assumption | (simp [cg_ok]; omega)) (by omega) (by first | decide | omega) dX2_writeKey_84 ?_
  rw [cg_up_sb]
  refine cr_aload_n (pc := 85) C dX2_writeKey_85 rfl ?_
  refine cr_getr (pc := 86) (c := 2) (k := 6) C (by first | rfl | assumption | (simp [cg_ok]; omega)) rfl (by decide) rfl inX2_writeKey_X2 flX2_writeKey_33 dX2_writeKey_86 ?_
  refine cr_iload_n (pc := 89) C dX2_writeKey_89 rfl ?_
  refine cr_aaload (pc := 90) C rfl (by first | rfl | assumption | (simp [cg_ok]; omega)) (by omega) (by first | decide | omega) dX2_writeKey_90 ?_
  refine cr_iload_n (pc := 91) C dX2_writeKey_91 rfl ?_
  refine cr_dup2 (pc := 92) C dX2_writeKey_92 rfl rfl ?_
  refine cr_iaload (pc := 93) C rfl (by first | rfl | assumption | (simp [cg_ok]; omega)) (by omega) (by first | decide | omega) dX2_writeKey_93 ?_
  rw [cg_sb_s]
  rw [cg_un (by omega)]
  refine cr_iconst (pc := 94) (v := nI 1) C dX2_writeKey_94 (by decide) ?_
  refine cr_iadd (pc := 95) C dX2_writeKey_95 ?_
  refine cr_iastore (pc := 96) C rfl (by first | rfl | assumption | (simp [cg_ok]; omega)) (by omega) (by first | decide | omega) dX2_writeKey_96 ?_
  rw [cg_up_sb]
  refine cr_aload_n (pc := 97) C dX2_writeKey_97 rfl ?_
  refine cr_getr (pc := 98) (c := 2) (k := 10) C (by first | rfl | assumption | (simp [cg_ok]; omega)) rfl (by decide) rfl inX2_writeKey_X2 flX2_writeKey_45 dX2_writeKey_98 ?_
  refine cr_iload_n (pc := 101) C dX2_writeKey_101 rfl ?_
  refine cr_aaload (pc := 102) C rfl (by first | rfl | assumption | (simp [cg_ok]; omega)) (by omega) (by first | decide | omega) dX2_writeKey_102 ?_
  refine cr_iload_n (pc := 103) C dX2_writeKey_103 rfl ?_
  refine cr_aload_n (pc := 104) C dX2_writeKey_104 rfl ?_
  refine cr_getr (pc := 105) (c := 2) (k := 6) C (by first | rfl | assumption | (simp [cg_ok]; omega)) rfl (by decide) rfl inX2_writeKey_X2 flX2_writeKey_33 dX2_writeKey_105 ?_
  refine cr_iload_n (pc := 108) C dX2_writeKey_108 rfl ?_
  refine cr_aaload (pc := 109) C rfl (by first | rfl | assumption | (simp [cg_ok]; omega)) (by omega) (by first | decide | omega) dX2_writeKey_109 ?_
  refine cr_iload_n (pc := 110) C dX2_writeKey_110 rfl ?_
  refine cr_iaload (pc := 111) C rfl (by first | rfl | assumption | (simp [cg_ok]; omega)) (by omega) (by first | decide | omega) dX2_writeKey_111 ?_
  rw [cg_sb_s]
  rw [cg_us]
  refine cr_iastore (pc := 112) C rfl (by first | rfl | assumption | (simp [cg_ok]; omega)) (by omega) (by first | decide | omega) dX2_writeKey_112 ?_
  rw [cg_up_sb]
  refine cr_aload_n (pc := 113) C dX2_writeKey_113 rfl ?_
  refine cr_getr (pc := 114) (c := 2) (k := 1) C (by first | rfl | assumption | (simp [cg_ok]; omega)) rfl (by decide) rfl inX2_writeKey_X2 flX2_writeKey_15 dX2_writeKey_114 ?_
  refine cr_aload_n (pc := 117) C dX2_writeKey_117 rfl ?_
  refine cr_geti (pc := 118) (c := 2) (k := 0) C (by first | rfl | assumption | (simp [cg_ok]; omega)) rfl (by decide) rfl rfl inX2_writeKey_X2 flX2_writeKey_9 dX2_writeKey_118 ?_
  rw [cg_sb_s]
  rw [cg_un (by omega), cg_un (by omega), cg_un (by omega), hA12]
  refine cr_iload_n (pc := 121) C dX2_writeKey_121 rfl ?_
  refine cr_iastore (pc := 122) C rfl (by first | rfl | assumption | (simp [cg_ok]; omega)) (by omega) (by first | decide | omega) dX2_writeKey_122 ?_
  rw [cg_up_sb]
  refine cr_aload_n (pc := 123) C dX2_writeKey_123 rfl ?_
  refine cr_getr (pc := 124) (c := 2) (k := 2) C (by first | rfl | assumption | (simp [cg_ok]; omega)) rfl (by decide) rfl inX2_writeKey_X2 flX2_writeKey_19 dX2_writeKey_124 ?_
  refine cr_aload_n (pc := 127) C dX2_writeKey_127 rfl ?_
  refine cr_geti (pc := 128) (c := 2) (k := 0) C (by first | rfl | assumption | (simp [cg_ok]; omega)) rfl (by decide) rfl rfl inX2_writeKey_X2 flX2_writeKey_9 dX2_writeKey_128 ?_
  rw [cg_sb_s]
  rw [cg_un (by omega), cg_un (by omega), cg_un (by omega), cg_un (by omega), hA12]
  refine cr_aload_n (pc := 131) C dX2_writeKey_131 rfl ?_
  refine cr_getr (pc := 132) (c := 2) (k := 6) C (by first | rfl | assumption | (simp [cg_ok]; omega)) rfl (by decide) rfl inX2_writeKey_X2 flX2_writeKey_33 dX2_writeKey_132 ?_
  refine cr_iload_n (pc := 135) C dX2_writeKey_135 rfl ?_
  refine cr_aaload (pc := 136) C rfl (by first | rfl | assumption | (simp [cg_ok]; omega)) (by omega) (by first | decide | omega) dX2_writeKey_136 ?_
  refine cr_iload_n (pc := 137) C dX2_writeKey_137 rfl ?_
  refine cr_iaload (pc := 138) C rfl (by first | rfl | assumption | (simp [cg_ok]; omega)) (by omega) (by first | decide | omega) dX2_writeKey_138 ?_
  rw [cg_sb_s]
  rw [cg_un (by omega), cg_un (by omega), cg_us]
  refine cr_iastore (pc := 139) C rfl (by first | rfl | assumption | (simp [cg_ok]; omega)) (by omega) (by first | decide | omega) dX2_writeKey_139 ?_
  rw [cg_up_sb]
  refine cr_aload_n (pc := 140) C dX2_writeKey_140 rfl ?_
  refine cr_getr (pc := 141) (c := 2) (k := 3) C (by first | rfl | assumption | (simp [cg_ok]; omega)) rfl (by decide) rfl inX2_writeKey_X2 flX2_writeKey_22 dX2_writeKey_141 ?_
  refine cr_aload_n (pc := 144) C dX2_writeKey_144 rfl ?_
  refine cr_geti (pc := 145) (c := 2) (k := 0) C (by first | rfl | assumption | (simp [cg_ok]; omega)) rfl (by decide) rfl rfl inX2_writeKey_X2 flX2_writeKey_9 dX2_writeKey_145 ?_
  rw [cg_sb_s]
  rw [cg_un (by omega), cg_un (by omega), cg_un (by omega), cg_un (by omega), cg_un (by omega), hA12]
  refine cr_iload_n (pc := 148) C dX2_writeKey_148 rfl ?_
  refine cr_iastore (pc := 149) C rfl (by first | rfl | assumption | (simp [cg_ok]; omega)) (by omega) (by first | decide | omega) dX2_writeKey_149 ?_
  rw [cg_up_sb]
  refine cr_aload_n (pc := 150) C dX2_writeKey_150 rfl ?_
  refine cr_getr (pc := 151) (c := 2) (k := 4) C (by first | rfl | assumption | (simp [cg_ok]; omega)) rfl (by decide) rfl inX2_writeKey_X2 flX2_writeKey_25 dX2_writeKey_151 ?_
  refine cr_aload_n (pc := 154) C dX2_writeKey_154 rfl ?_
  refine cr_geti (pc := 155) (c := 2) (k := 0) C (by first | rfl | assumption | (simp [cg_ok]; omega)) rfl (by decide) rfl rfl inX2_writeKey_X2 flX2_writeKey_9 dX2_writeKey_155 ?_
  rw [cg_sb_s]
  rw [cg_un (by omega), cg_un (by omega), cg_un (by omega), cg_un (by omega), cg_un (by omega), cg_un (by omega), hA12]
  refine cr_iload (pc := 158) C dX2_writeKey_158 rfl ?_
  refine cr_iastore (pc := 160) C rfl (by first | rfl | assumption | (simp [cg_ok]; omega)) (by omega) (by first | decide | omega) dX2_writeKey_160 ?_
  rw [cg_up_sb]
  refine cr_aload_n (pc := 161) C dX2_writeKey_161 rfl ?_
  refine cr_getr (pc := 162) (c := 2) (k := 5) C (by first | rfl | assumption | (simp [cg_ok]; omega)) rfl (by decide) rfl inX2_writeKey_X2 flX2_writeKey_28 dX2_writeKey_162 ?_
  refine cr_aload_n (pc := 165) C dX2_writeKey_165 rfl ?_
  refine cr_geti (pc := 166) (c := 2) (k := 0) C (by first | rfl | assumption | (simp [cg_ok]; omega)) rfl (by decide) rfl rfl inX2_writeKey_X2 flX2_writeKey_9 dX2_writeKey_166 ?_
  rw [cg_sb_s]
  rw [cg_un (by omega), cg_un (by omega), cg_un (by omega), cg_un (by omega), cg_un (by omega), cg_un (by omega), cg_un (by omega), hA12]
  refine cr_aload_n (pc := 169) C dX2_writeKey_169 rfl ?_
  refine cr_getr (pc := 170) (c := 2) (k := 7) C (by first | rfl | assumption | (simp [cg_ok]; omega)) rfl (by decide) rfl inX2_writeKey_X2 flX2_writeKey_36 dX2_writeKey_170 ?_
  refine cr_iload_n (pc := 173) C dX2_writeKey_173 rfl ?_
  refine cr_iaload (pc := 174) C rfl (by first | rfl | assumption | (simp [cg_ok]; omega)) (by omega) (by first | decide | omega) dX2_writeKey_174 ?_
  rw [cg_sb_s]
  rw [cg_un (by omega), cg_un (by omega), cg_un (by omega), cg_un (by omega), cg_un (by omega), cg_un (by omega), cg_us]
  refine cr_iastore (pc := 175) C rfl (by first | rfl | assumption | (simp [cg_ok]; omega)) (by omega) (by first | decide | omega) dX2_writeKey_175 ?_
  rw [cg_up_sb]
  refine cr_aload_n (pc := 176) C dX2_writeKey_176 rfl ?_
  refine cr_dup (pc := 177) C dX2_writeKey_177 rfl ?_
  refine cr_geti (pc := 178) (c := 2) (k := 0) C (by first | rfl | assumption | (simp [cg_ok]; omega)) rfl (by decide) rfl rfl inX2_writeKey_X2 flX2_writeKey_9 dX2_writeKey_178 ?_
  rw [cg_sb_s]
  rw [cg_un (by omega), cg_un (by omega), cg_un (by omega), cg_un (by omega), cg_un (by omega), cg_un (by omega), cg_un (by omega), cg_un (by omega), hA12]
  refine cr_iconst (pc := 181) (v := nI 1) C dX2_writeKey_181 (by decide) ?_
  refine cr_iadd_n (pc := 182) C dX2_writeKey_182 ?_
  refine cr_puti (pc := 183) (c := 2) (k := 0) C (by first | rfl | assumption | (simp [cg_ok]; omega)) rfl (by decide) rfl rfl inX2_writeKey_X2 flX2_writeKey_9 rfl (by first | rfl | decide) rfl dX2_writeKey_183 ?_
  rw [cg_up_sb]
  refine cr_aload_n (pc := 186) C dX2_writeKey_186 rfl ?_
  refine cr_getr (pc := 187) (c := 2) (k := 6) C (by first | rfl | assumption | (simp [cg_ok]; omega)) rfl (by decide) rfl inX2_writeKey_X2 flX2_writeKey_33 dX2_writeKey_187 ?_
  refine cr_iload_n (pc := 190) C dX2_writeKey_190 rfl ?_
  refine cr_aaload (pc := 191) C rfl (by first | rfl | assumption | (simp [cg_ok]; omega)) (by omega) (by first | decide | omega) dX2_writeKey_191 ?_
  refine cr_iload_n (pc := 192) C dX2_writeKey_192 rfl ?_
  refine cr_iaload (pc := 193) C rfl (by first | rfl | assumption | (simp [cg_ok]; omega)) (by omega) (by first | decide | omega) dX2_writeKey_193 ?_
  rw [cg_sb_s]
  rw [cg_un (by omega), cg_un (by omega), cg_un (by omega), cg_un (by omega), cg_un (by omega), cg_un (by omega), cg_un (by omega), cg_us]
  refine cr_ireturn (pc := 194) C X dX2_writeKey_194 ?_
  exact ⟨by rw [hA, cg_cb_lt (by omega)], by rw [hA]; rfl⟩
set_option maxRecDepth 100000 in
set_option maxHeartbeats 4000000 in
theorem sp_wK0 {M : cg_M} {P : Nat → Int32} {x y z t : Int32} (h : ¬ (cg_in x 4 ∧ cg_in y 3 ∧ cg_in z 4 ∧ cg_in t 100)) : cg_D yX2_writeKey wsX2_writeKey rmX2_writeKey [.inr (.inr (0, 0, 0, 0)), .inl (x), .inl (y), .inl (z), .inl (t)] (cg_sb M 0 P) (some (.inl (-2))) ((cg_sb M 0 P)) := by
  rcases Classical.em (cg_in x 4) with ⟨c, hc, rfl⟩ | hx
  rcases Classical.em (cg_in y 3) with ⟨r, hr, rfl⟩ | hy
  rcases Classical.em (cg_in z 4) with ⟨k, hk, rfl⟩ | hz
  · refine cg_S_of (cc := cX2_writeKey) (maxL := 6) (ret := (some .int)) (ls0 := [some (.inr (.inr (0, 0, 0, 0))), some (.inl (nI c)), some (.inl (nI r)), some (.inl (nI k)), some (.inl (t)), none]) RX2 rfl (by decide) rfl rfl (Nat.le_of_ble_eq_true rfl) (fun E C X => ?_)
    refine cr_iload_n (pc := 0) C dX2_writeKey_0 rfl ?_
    refine cr_dN (pc := 1) C (sp_isClient1 hc) rfl gX2_writeKey_X3_isClient_n59 rfl dX2_writeKey_1 neX3_isClient isX2_writeKey_X3_isClient hsX3_isClient rfl ⟨rfl, rfl, Nat.le_of_ble_eq_true rfl, Nat.le_of_ble_eq_true rfl⟩ (Nat.le_of_ble_eq_true rfl) rfl ?_
    refine cr_if_eq_f (pc := 4) (tgt := 31) C dX2_writeKey_4 (by decide) (by decide) ?_
    refine cr_iload_n (pc := 7) C dX2_writeKey_7 rfl ?_
    refine cr_dN (pc := 8) C (sp_isReplica1 hr) rfl gX2_writeKey_X3_isReplica_n67 rfl dX2_writeKey_8 neX3_isReplica isX2_writeKey_X3_isReplica hsX3_isReplica rfl ⟨rfl, rfl, Nat.le_of_ble_eq_true rfl, Nat.le_of_ble_eq_true rfl⟩ (Nat.le_of_ble_eq_true rfl) rfl ?_
    refine cr_if_eq_f (pc := 11) (tgt := 31) C dX2_writeKey_11 (by decide) (by decide) ?_
    refine cr_iload_n (pc := 14) C dX2_writeKey_14 rfl ?_
    refine cr_dN (pc := 15) C (sp_isKey1 hk) rfl gX2_writeKey_X3_isKey_n70 rfl dX2_writeKey_15 neX3_isKey isX2_writeKey_X3_isKey hsX3_isKey rfl ⟨rfl, rfl, Nat.le_of_ble_eq_true rfl, Nat.le_of_ble_eq_true rfl⟩ (Nat.le_of_ble_eq_true rfl) rfl ?_
    refine cr_if_eq_f (pc := 18) (tgt := 31) C dX2_writeKey_18 (by decide) (by decide) ?_
    refine cr_iload (pc := 21) C dX2_writeKey_21 rfl ?_
    refine cr_bipush (pc := 23) (v := nI 100) C dX2_writeKey_23 (by decide) ?_
    refine cr_dN (pc := 25) C (sp_isBelow0 (fun q => h ⟨⟨_, hc, rfl⟩, ⟨_, hr, rfl⟩, ⟨_, hk, rfl⟩, q⟩) (by decide)) rfl gX2_writeKey_X3_isBelow_n63 rfl dX2_writeKey_25 neX3_isBelow isX2_writeKey_X3_isBelow hsX3_isBelow rfl ⟨rfl, rfl, Nat.le_of_ble_eq_true rfl, Nat.le_of_ble_eq_true rfl⟩ (Nat.le_of_ble_eq_true rfl) rfl ?_
    refine cr_if_ne_f (pc := 28) (tgt := 34) C dX2_writeKey_28 (by decide) (by decide) ?_
    refine cr_bipush (pc := 31) (v := (-2)) C dX2_writeKey_31 (by decide) ?_
    refine cr_ireturn (pc := 33) C X dX2_writeKey_33 ?_
    exact ⟨rfl, rfl⟩
  · refine cg_S_of (cc := cX2_writeKey) (maxL := 6) (ret := (some .int)) (ls0 := [some (.inr (.inr (0, 0, 0, 0))), some (.inl (nI c)), some (.inl (nI r)), some (.inl (z)), some (.inl (t)), none]) RX2 rfl (by decide) rfl rfl (Nat.le_of_ble_eq_true rfl) (fun E C X => ?_)
    refine cr_iload_n (pc := 0) C dX2_writeKey_0 rfl ?_
    refine cr_dN (pc := 1) C (sp_isClient1 hc) rfl gX2_writeKey_X3_isClient_n59 rfl dX2_writeKey_1 neX3_isClient isX2_writeKey_X3_isClient hsX3_isClient rfl ⟨rfl, rfl, Nat.le_of_ble_eq_true rfl, Nat.le_of_ble_eq_true rfl⟩ (Nat.le_of_ble_eq_true rfl) rfl ?_
    refine cr_if_eq_f (pc := 4) (tgt := 31) C dX2_writeKey_4 (by decide) (by decide) ?_
    refine cr_iload_n (pc := 7) C dX2_writeKey_7 rfl ?_
    refine cr_dN (pc := 8) C (sp_isReplica1 hr) rfl gX2_writeKey_X3_isReplica_n67 rfl dX2_writeKey_8 neX3_isReplica isX2_writeKey_X3_isReplica hsX3_isReplica rfl ⟨rfl, rfl, Nat.le_of_ble_eq_true rfl, Nat.le_of_ble_eq_true rfl⟩ (Nat.le_of_ble_eq_true rfl) rfl ?_
    refine cr_if_eq_f (pc := 11) (tgt := 31) C dX2_writeKey_11 (by decide) (by decide) ?_
    refine cr_iload_n (pc := 14) C dX2_writeKey_14 rfl ?_
    refine cr_dN (pc := 15) C (sp_isKey0 hz) rfl gX2_writeKey_X3_isKey_n70 rfl dX2_writeKey_15 neX3_isKey isX2_writeKey_X3_isKey hsX3_isKey rfl ⟨rfl, rfl, Nat.le_of_ble_eq_true rfl, Nat.le_of_ble_eq_true rfl⟩ (Nat.le_of_ble_eq_true rfl) rfl ?_
    refine cr_if_eq_t (pc := 18) (tgt := 31) C dX2_writeKey_18 (by decide) (by decide) ?_
    refine cr_bipush (pc := 31) (v := (-2)) C dX2_writeKey_31 (by decide) ?_
    refine cr_ireturn (pc := 33) C X dX2_writeKey_33 ?_
    exact ⟨rfl, rfl⟩
  · refine cg_S_of (cc := cX2_writeKey) (maxL := 6) (ret := (some .int)) (ls0 := [some (.inr (.inr (0, 0, 0, 0))), some (.inl (nI c)), some (.inl (y)), some (.inl (z)), some (.inl (t)), none]) RX2 rfl (by decide) rfl rfl (Nat.le_of_ble_eq_true rfl) (fun E C X => ?_)
    refine cr_iload_n (pc := 0) C dX2_writeKey_0 rfl ?_
    refine cr_dN (pc := 1) C (sp_isClient1 hc) rfl gX2_writeKey_X3_isClient_n59 rfl dX2_writeKey_1 neX3_isClient isX2_writeKey_X3_isClient hsX3_isClient rfl ⟨rfl, rfl, Nat.le_of_ble_eq_true rfl, Nat.le_of_ble_eq_true rfl⟩ (Nat.le_of_ble_eq_true rfl) rfl ?_
    refine cr_if_eq_f (pc := 4) (tgt := 31) C dX2_writeKey_4 (by decide) (by decide) ?_
    refine cr_iload_n (pc := 7) C dX2_writeKey_7 rfl ?_
    refine cr_dN (pc := 8) C (sp_isReplica0 hy) rfl gX2_writeKey_X3_isReplica_n67 rfl dX2_writeKey_8 neX3_isReplica isX2_writeKey_X3_isReplica hsX3_isReplica rfl ⟨rfl, rfl, Nat.le_of_ble_eq_true rfl, Nat.le_of_ble_eq_true rfl⟩ (Nat.le_of_ble_eq_true rfl) rfl ?_
    refine cr_if_eq_t (pc := 11) (tgt := 31) C dX2_writeKey_11 (by decide) (by decide) ?_
    refine cr_bipush (pc := 31) (v := (-2)) C dX2_writeKey_31 (by decide) ?_
    refine cr_ireturn (pc := 33) C X dX2_writeKey_33 ?_
    exact ⟨rfl, rfl⟩
  · refine cg_S_of (cc := cX2_writeKey) (maxL := 6) (ret := (some .int)) (ls0 := [some (.inr (.inr (0, 0, 0, 0))), some (.inl (x)), some (.inl (y)), some (.inl (z)), some (.inl (t)), none]) RX2 rfl (by decide) rfl rfl (Nat.le_of_ble_eq_true rfl) (fun E C X => ?_)
    refine cr_iload_n (pc := 0) C dX2_writeKey_0 rfl ?_
    refine cr_dN (pc := 1) C (sp_isClient0 hx) rfl gX2_writeKey_X3_isClient_n59 rfl dX2_writeKey_1 neX3_isClient isX2_writeKey_X3_isClient hsX3_isClient rfl ⟨rfl, rfl, Nat.le_of_ble_eq_true rfl, Nat.le_of_ble_eq_true rfl⟩ (Nat.le_of_ble_eq_true rfl) rfl ?_
    refine cr_if_eq_t (pc := 4) (tgt := 31) C dX2_writeKey_4 (by decide) (by decide) ?_
    refine cr_bipush (pc := 31) (v := (-2)) C dX2_writeKey_31 (by decide) ?_
    refine cr_ireturn (pc := 33) C X dX2_writeKey_33 ?_
    exact ⟨rfl, rfl⟩
