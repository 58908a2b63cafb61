/-! ===== the reference: doesWrite, doesSync ===== -/
set_option maxRecDepth 100000 in
set_option maxHeartbeats 4000000 in
theorem sm_wK3 {M : cg_M} {P : Nat → Int32} {c r k v : Nat} (hc : c < 4) (hr : r < 3) (hk : k < 4) (hv : v < 100) (hI : cg_I P) (h : cg_wA P c r = false) : cg_D yX4_doesWrite wsX4_doesWrite rmX4_doesWrite [.inr (.inr (4, 0, 0, 0)), .inl (nI c), .inl (nI r), .inl (nI k), .inl (nI v)] (cg_sb M 20 P) (some (.inl (-3))) ((cg_sb M 20 P)) := by
  refine cg_S_of (cc := cX4_doesWrite) (maxL := 8) (ret := (some .int)) (ls0 := [some (.inr (.inr (4, 0, 0, 0))), some (.inl (nI c)), some (.inl (nI r)), some (.inl (nI k)), some (.inl (nI v)), none, none, none]) RX4 rfl (by decide) rfl rfl (Nat.le_of_ble_eq_true rfl) (fun E C X => ?_)
  refine cr_iload_n (pc := 0) C dX4_doesWrite_0 rfl ?_
  refine cr_dS (pc := 1) C (sm_isClient1 hc) rfl gX4_doesWrite_X4_isClient rfl dX4_doesWrite_1 hsX4_isClient rfl ⟨rfl, rfl, Nat.le_of_ble_eq_true rfl, Nat.le_of_ble_eq_true rfl⟩ (Nat.le_of_ble_eq_true rfl) rfl ?_
  refine cr_if_eq_f (pc := 4) (tgt := 34) C dX4_doesWrite_4 (by decide) (by decide) ?_
  refine cr_iload_n (pc := 7) C dX4_doesWrite_7 rfl ?_
  refine cr_dS (pc := 8) C (sm_isReplica1 hr) rfl gX4_doesWrite_X4_isReplica rfl dX4_doesWrite_8 hsX4_isReplica rfl ⟨rfl, rfl, Nat.le_of_ble_eq_true rfl, Nat.le_of_ble_eq_true rfl⟩ (Nat.le_of_ble_eq_true rfl) rfl ?_
  refine cr_if_eq_f (pc := 11) (tgt := 34) C dX4_doesWrite_11 (by decide) (by decide) ?_
  refine cr_iload_n (pc := 14) C dX4_doesWrite_14 rfl ?_
  refine cr_dS (pc := 15) C (sm_isKey1 hk) rfl gX4_doesWrite_X4_isKey rfl dX4_doesWrite_15 hsX4_isKey rfl ⟨rfl, rfl, Nat.le_of_ble_eq_true rfl, Nat.le_of_ble_eq_true rfl⟩ (Nat.le_of_ble_eq_true rfl) rfl ?_
  refine cr_if_eq_f (pc := 18) (tgt := 34) C dX4_doesWrite_18 (by decide) (by decide) ?_
  refine cr_iload (pc := 21) C dX4_doesWrite_21 rfl ?_
  refine cr_i2l (pc := 23) C dX4_doesWrite_23 ?_
  refine cr_lconst (pc := 24) (v := 0) C dX4_doesWrite_24 rfl ?_
  refine cr_ldc2 (pc := 25) C dX4_doesWrite_25 klX4_doesWrite_96 ?_
  refine cr_dS (pc := 28) C (sm_in1 ((cg_in64 (n := 99) (by decide)).mpr ⟨_, hv, rfl⟩).1 ((cg_in64 (n := 99) (by decide)).mpr ⟨_, hv, rfl⟩).2) rfl gX4_doesWrite_X4_in rfl dX4_doesWrite_28 hsX4_in rfl ⟨rfl, rfl, Nat.le_of_ble_eq_true rfl, Nat.le_of_ble_eq_true rfl⟩ (Nat.le_of_ble_eq_true rfl) rfl ?_
  refine cr_if_ne_t (pc := 31) (tgt := 37) C dX4_doesWrite_31 (by decide) (by decide) ?_
  refine cr_aload_n (pc := 37) C dX4_doesWrite_37 rfl ?_
  refine cr_iload_n (pc := 38) C dX4_doesWrite_38 rfl ?_
  refine cr_iload_n (pc := 39) C dX4_doesWrite_39 rfl ?_
  refine cr_dV (pc := 40) C (sm_uW hc hr hI) rfl gX4_doesWrite_X4_breachesOfWrite rfl dX4_doesWrite_40 (by first | rfl | assumption | (simp [cg_ok]; omega)) rfl hvX4_breachesOfWrite rfl ⟨rfl, rfl, Nat.le_of_ble_eq_true rfl, Nat.le_of_ble_eq_true rfl⟩ (Nat.le_of_ble_eq_true rfl) rfl ?_
  refine cr_istore5 (pc := 43) C dX4_doesWrite_43 (by decide) rfl ?_
  refine cr_iload (pc := 45) C dX4_doesWrite_45 rfl ?_
  refine cr_aload_n (pc := 47) C dX4_doesWrite_47 rfl ?_
  refine cr_iload_n (pc := 48) C dX4_doesWrite_48 rfl ?_
  refine cr_dV (pc := 49) C (sm_gs hc) rfl gX4_doesWrite_X4_guarantees rfl dX4_doesWrite_49 (by first | rfl | assumption | (simp [cg_ok]; omega)) rfl hvX4_guarantees rfl ⟨rfl, rfl, Nat.le_of_ble_eq_true rfl, Nat.le_of_ble_eq_true rfl⟩ (Nat.le_of_ble_eq_true rfl) rfl ?_
  refine cr_iand (pc := 52) C dX4_doesWrite_52 ?_
  refine cr_if_eq_f (pc := 53) (tgt := 59) C dX4_doesWrite_53 (by decide) (of_decide_eq_false h) ?_
  refine cr_bipush (pc := 56) (v := (-3)) C dX4_doesWrite_56 (by decide) ?_
  refine cr_ireturn (pc := 58) C X dX4_doesWrite_58 ?_
  exact ⟨rfl, rfl⟩
set_option maxRecDepth 100000 in
set_option maxHeartbeats 4000000 in
theorem sm_wK4 {M : cg_M} {P : Nat → Int32} {c r k v : Nat} (hc : c < 4) (hr : r < 3) (hk : k < 4) (hv : v < 100) (hI : cg_I P) (h : cg_wA P c r = true) (hn : P 12 = nI 60) : cg_D yX4_doesWrite wsX4_doesWrite rmX4_doesWrite [.inr (.inr (4, 0, 0, 0)), .inl (nI c), .inl (nI r), .inl (nI k), .inl (nI v)] (cg_sb M 20 P) (some (.inl (-4))) ((cg_sb M 20 P)) := by
  refine cg_S_of (cc := cX4_doesWrite) (maxL := 8) (ret := (some .int)) (ls0 := [some (.inr (.inr (4, 0, 0, 0))), some (.inl (nI c)), some (.inl (nI r)), some (.inl (nI k)), some (.inl (nI v)), none, none, none]) RX4 rfl (by decide) rfl rfl (Nat.le_of_ble_eq_true rfl) (fun E C X => ?_)
  refine cr_iload_n (pc := 0) C dX4_doesWrite_0 rfl ?_
  refine cr_dS (pc := 1) C (sm_isClient1 hc) rfl gX4_doesWrite_X4_isClient rfl dX4_doesWrite_1 hsX4_isClient rfl ⟨rfl, rfl, Nat.le_of_ble_eq_true rfl, Nat.le_of_ble_eq_true rfl⟩ (Nat.le_of_ble_eq_true rfl) rfl ?_
  refine cr_if_eq_f (pc := 4) (tgt := 34) C dX4_doesWrite_4 (by decide) (by decide) ?_
  refine cr_iload_n (pc := 7) C dX4_doesWrite_7 rfl ?_
  refine cr_dS (pc := 8) C (sm_isReplica1 hr) rfl gX4_doesWrite_X4_isReplica rfl dX4_doesWrite_8 hsX4_isReplica rfl ⟨rfl, rfl, Nat.le_of_ble_eq_true rfl, Nat.le_of_ble_eq_true rfl⟩ (Nat.le_of_ble_eq_true rfl) rfl ?_
  refine cr_if_eq_f (pc := 11) (tgt := 34) C dX4_doesWrite_11 (by decide) (by decide) ?_
  refine cr_iload_n (pc := 14) C dX4_doesWrite_14 rfl ?_
  refine cr_dS (pc := 15) C (sm_isKey1 hk) rfl gX4_doesWrite_X4_isKey rfl dX4_doesWrite_15 hsX4_isKey rfl ⟨rfl, rfl, Nat.le_of_ble_eq_true rfl, Nat.le_of_ble_eq_true rfl⟩ (Nat.le_of_ble_eq_true rfl) rfl ?_
  refine cr_if_eq_f (pc := 18) (tgt := 34) C dX4_doesWrite_18 (by decide) (by decide) ?_
  refine cr_iload (pc := 21) C dX4_doesWrite_21 rfl ?_
  refine cr_i2l (pc := 23) C dX4_doesWrite_23 ?_
  refine cr_lconst (pc := 24) (v := 0) C dX4_doesWrite_24 rfl ?_
  refine cr_ldc2 (pc := 25) C dX4_doesWrite_25 klX4_doesWrite_96 ?_
  refine cr_dS (pc := 28) C (sm_in1 ((cg_in64 (n := 99) (by decide)).mpr ⟨_, hv, rfl⟩).1 ((cg_in64 (n := 99) (by decide)).mpr ⟨_, hv, rfl⟩).2) rfl gX4_doesWrite_X4_in rfl dX4_doesWrite_28 hsX4_in rfl ⟨rfl, rfl, Nat.le_of_ble_eq_true rfl, Nat.le_of_ble_eq_true rfl⟩ (Nat.le_of_ble_eq_true rfl) rfl ?_
  refine cr_if_ne_t (pc := 31) (tgt := 37) C dX4_doesWrite_31 (by decide) (by decide) ?_
  refine cr_aload_n (pc := 37) C dX4_doesWrite_37 rfl ?_
  refine cr_iload_n (pc := 38) C dX4_doesWrite_38 rfl ?_
  refine cr_iload_n (pc := 39) C dX4_doesWrite_39 rfl ?_
  refine cr_dV (pc := 40) C (sm_uW hc hr hI) rfl gX4_doesWrite_X4_breachesOfWrite rfl dX4_doesWrite_40 (by first | rfl | assumption | (simp [cg_ok]; omega)) rfl hvX4_breachesOfWrite rfl ⟨rfl, rfl, Nat.le_of_ble_eq_true rfl, Nat.le_of_ble_eq_true rfl⟩ (Nat.le_of_ble_eq_true rfl) rfl ?_
  refine cr_istore5 (pc := 43) C dX4_doesWrite_43 (by decide) rfl ?_
  refine cr_iload (pc := 45) C dX4_doesWrite_45 rfl ?_
  refine cr_aload_n (pc := 47) C dX4_doesWrite_47 rfl ?_
  refine cr_iload_n (pc := 48) C dX4_doesWrite_48 rfl ?_
  refine cr_dV (pc := 49) C (sm_gs hc) rfl gX4_doesWrite_X4_guarantees rfl dX4_doesWrite_49 (by first | rfl | assumption | (simp [cg_ok]; omega)) rfl hvX4_guarantees rfl ⟨rfl, rfl, Nat.le_of_ble_eq_true rfl, Nat.le_of_ble_eq_true rfl⟩ (Nat.le_of_ble_eq_true rfl) rfl ?_
  refine cr_iand (pc := 52) C dX4_doesWrite_52 ?_
  refine cr_if_eq_t (pc := 53) (tgt := 59) C dX4_doesWrite_53 (by decide) (of_decide_eq_true h) ?_
  refine cr_aload_n (pc := 59) C dX4_doesWrite_59 rfl ?_
  refine cr_getr (pc := 60) (c := 4) (k := 0) C (by first | rfl | assumption | (simp [cg_ok]; omega)) rfl (by decide) rfl inX4_doesWrite_X4 flX4_doesWrite_7 dX4_doesWrite_60 ?_
  refine cr_bipush (pc := 63) (v := nI 12) C dX4_doesWrite_63 (by decide) ?_
  refine cr_iaload (pc := 65) C rfl (by first | rfl | assumption | (simp [cg_ok]; omega)) (by decide) (by first | decide | omega) dX4_doesWrite_65 ?_
  rw [cg_sb_s]
  refine cr_bipush (pc := 66) (v := nI 60) C dX4_doesWrite_66 (by decide) ?_
  refine cr_icmp_ne_f (pc := 68) (tgt := 74) C dX4_doesWrite_68 (by decide) hn ?_
  refine cr_bipush (pc := 71) (v := (-4)) C dX4_doesWrite_71 (by decide) ?_
  refine cr_ireturn (pc := 73) C X dX4_doesWrite_73 ?_
  exact ⟨rfl, rfl⟩
theorem cg_wrm {A : Nat → Int32} {c r k v n : Nat} (hc : c < 4) (hr : r < 3) (hn : n < 60) : upd (upd (upd (upd (upd (upd (upd (upd (upd A (9 + r) (A (9 + r) + nI 1)) (3 * r + r) (A (3 * r + r) + nI 1)) (13 + 5 * n) (nI r)) (14 + 5 * n) (A (3 * r + r) + nI 1)) (15 + 5 * n) (nI k)) (16 + 5 * n) (nI v)) (17 + 5 * n) (A (9 + r) + nI 1)) 12 (nI (n + 1))) (317 + 7 * c + r) (A (3 * r + r) + nI 1) = cg_wr A c r k v n := by
  unfold cg_wr
  rw [cg_ucomm (a := 12) (by omega), cg_ucomm (a := 17 + 5 * n) (by omega), cg_ucomm (a := 16 + 5 * n) (by omega), cg_ucomm (a := 15 + 5 * n) (by omega), cg_ucomm (a := 14 + 5 * n) (by omega), cg_ucomm (a := 13 + 5 * n) (by omega)]
set_option maxRecDepth 100000 in
set_option maxHeartbeats 4000000 in
theorem sm_wK1 {M : cg_M} {P : Nat → Int32} {c r k v n : Nat} (hc : c < 4) (hr : r < 3) (hk : k < 4) (hv : v < 100) (hI : cg_I P) (h : cg_wA P c r = true) (hn : P 12 = nI n) (hn60 : n < 60) : cg_D yX4_doesWrite wsX4_doesWrite rmX4_doesWrite [.inr (.inr (4, 0, 0, 0)), .inl (nI c), .inl (nI r), .inl (nI k), .inl (nI v)] (cg_sb M 20 P) (some (.inl (P (3 * r + r) + nI 1))) (cg_sb M 20 (cg_wr (cg_cb P (cg_uW P c r)) c r k v n)) := by
  obtain ⟨A, hA⟩ : ∃ A, A = cg_cb P (cg_uW P c r) := ⟨_, rfl⟩
  have hA12 : A 12 = nI n := by rw [hA, cg_cb_lt (by omega)]; exact hn
  refine cg_S_of (cc := cX4_doesWrite) (maxL := 8) (ret := (some .int)) (ls0 := [some (.inr (.inr (4, 0, 0, 0))), some (.inl (nI c)), some (.inl (nI r)), some (.inl (nI k)), some (.inl (nI v)), none, none, none]) RX4 rfl (by decide) rfl rfl (Nat.le_of_ble_eq_true rfl) (fun E C X => ?_)
  refine cr_iload_n (pc := 0) C dX4_doesWrite_0 rfl ?_
  refine cr_dS (pc := 1) C (sm_isClient1 hc) rfl gX4_doesWrite_X4_isClient rfl dX4_doesWrite_1 hsX4_isClient rfl ⟨rfl, rfl, Nat.le_of_ble_eq_true rfl, Nat.le_of_ble_eq_true rfl⟩ (Nat.le_of_ble_eq_true rfl) rfl ?_
  refine cr_if_eq_f (pc := 4) (tgt := 34) C dX4_doesWrite_4 (by decide) (by decide) ?_
  refine cr_iload_n (pc := 7) C dX4_doesWrite_7 rfl ?_
  refine cr_dS (pc := 8) C (sm_isReplica1 hr) rfl gX4_doesWrite_X4_isReplica rfl dX4_doesWrite_8 hsX4_isReplica rfl ⟨rfl, rfl, Nat.le_of_ble_eq_true rfl, Nat.le_of_ble_eq_true rfl⟩ (Nat.le_of_ble_eq_true rfl) rfl ?_
  refine cr_if_eq_f (pc := 11) (tgt := 34) C dX4_doesWrite_11 (by decide) (by decide) ?_
  refine cr_iload_n (pc := 14) C dX4_doesWrite_14 rfl ?_
  refine cr_dS (pc := 15) C (sm_isKey1 hk) rfl gX4_doesWrite_X4_isKey rfl dX4_doesWrite_15 hsX4_isKey rfl ⟨rfl, rfl, Nat.le_of_ble_eq_true rfl, Nat.le_of_ble_eq_true rfl⟩ (Nat.le_of_ble_eq_true rfl) rfl ?_
  refine cr_if_eq_f (pc := 18) (tgt := 34) C dX4_doesWrite_18 (by decide) (by decide) ?_
  refine cr_iload (pc := 21) C dX4_doesWrite_21 rfl ?_
  refine cr_i2l (pc := 23) C dX4_doesWrite_23 ?_
  refine cr_lconst (pc := 24) (v := 0) C dX4_doesWrite_24 rfl ?_
  refine cr_ldc2 (pc := 25) C dX4_doesWrite_25 klX4_doesWrite_96 ?_
  refine cr_dS (pc := 28) C (sm_in1 ((cg_in64 (n := 99) (by decide)).mpr ⟨_, hv, rfl⟩).1 ((cg_in64 (n := 99) (by decide)).mpr ⟨_, hv, rfl⟩).2) rfl gX4_doesWrite_X4_in rfl dX4_doesWrite_28 hsX4_in rfl ⟨rfl, rfl, Nat.le_of_ble_eq_true rfl, Nat.le_of_ble_eq_true rfl⟩ (Nat.le_of_ble_eq_true rfl) rfl ?_
  refine cr_if_ne_t (pc := 31) (tgt := 37) C dX4_doesWrite_31 (by decide) (by decide) ?_
  refine cr_aload_n (pc := 37) C dX4_doesWrite_37 rfl ?_
  refine cr_iload_n (pc := 38) C dX4_doesWrite_38 rfl ?_
  refine cr_iload_n (pc := 39) C dX4_doesWrite_39 rfl ?_
  refine cr_dV (pc := 40) C (sm_uW hc hr hI) rfl gX4_doesWrite_X4_breachesOfWrite rfl dX4_doesWrite_40 (by first | rfl | assumption | (simp [cg_ok]; omega)) rfl hvX4_breachesOfWrite rfl ⟨rfl, rfl, Nat.le_of_ble_eq_true rfl, Nat.le_of_ble_eq_true rfl⟩ (Nat.le_of_ble_eq_true rfl) rfl ?_
  refine cr_istore5 (pc := 43) C dX4_doesWrite_43 (by decide) rfl ?_
  refine cr_iload (pc := 45) C dX4_doesWrite_45 rfl ?_
  refine cr_aload_n (pc := 47) C dX4_doesWrite_47 rfl ?_
  refine cr_iload_n (pc := 48) C dX4_doesWrite_48 rfl ?_
  refine cr_dV (pc := 49) C (sm_gs hc) rfl gX4_doesWrite_X4_guarantees rfl dX4_doesWrite_49 (by first | rfl | assumption | (simp [cg_ok]; omega)) rfl hvX4_guarantees rfl ⟨rfl, rfl, Nat.le_of_ble_eq_true rfl, Nat.le_of_ble_eq_true rfl⟩ (Nat.le_of_ble_eq_true rfl) rfl ?_
  refine cr_iand (pc := 52) C dX4_doesWrite_52 ?_
  refine cr_if_eq_t (pc := 53) (tgt := 59) C dX4_doesWrite_53 (by decide) (of_decide_eq_true h) ?_
  refine cr_aload_n (pc := 59) C dX4_doesWrite_59 rfl ?_
  refine cr_getr (pc := 60) (c := 4) (k := 0) C (by first | rfl | assumption | (simp [cg_ok]; omega)) rfl (by decide) rfl inX4_doesWrite_X4 flX4_doesWrite_7 dX4_doesWrite_60 ?_
  refine cr_bipush (pc := 63) (v := nI 12) C dX4_doesWrite_63 (by decide) ?_
  refine cr_iaload (pc := 65) C rfl (by first | rfl | assumption | (simp [cg_ok]; omega)) (by decide) (by first | decide | omega) dX4_doesWrite_65 ?_
  rw [cg_sb_s]
  refine cr_bipush (pc := 66) (v := nI 60) C dX4_doesWrite_66 (by decide) ?_
  rw [hn]
  refine cr_icmp_ne_t (pc := 68) (tgt := 74) C dX4_doesWrite_68 (by decide) (fun q => absurd ((nI_eq (by omega) (by omega)).mp q) (by omega)) ?_
  refine cr_aload_n (pc := 74) C dX4_doesWrite_74 rfl ?_
  refine cr_iload (pc := 75) C dX4_doesWrite_75 rfl ?_
  refine cr_dV (pc := 77) C (sm_cb (cg_uW_lt _ _ _)) rfl gX4_doesWrite_X4_countsBreaches rfl dX4_doesWrite_77 (by first | rfl | assumption | (simp [cg_ok]; omega)) rfl hvX4_countsBreaches rfl ⟨rfl, rfl, Nat.le_of_ble_eq_true rfl, Nat.le_of_ble_eq_true rfl⟩ (Nat.le_of_ble_eq_true rfl) rfl ?_
  rw [← hA]
  refine cr_aload_n (pc := 80) C dX4_doesWrite_80 rfl ?_
  refine cr_getr (pc := 81) (c := 4) (k := 0) C (by first | rfl | assumption | (simp [cg_ok]; omega)) rfl (by decide) rfl inX4_doesWrite_X4 flX4_doesWrite_7 dX4_doesWrite_81 ?_
  refine cr_bipush (pc := 84) (v := nI 9) C dX4_doesWrite_84 (by decide) ?_
  refine cr_iload_n (pc := 86) C dX4_doesWrite_86 rfl ?_
  refine cr_iadd_n (pc := 87) C dX4_doesWrite_87 ?_
  refine cr_dup2 (pc := 88) C dX4_doesWrite_88 rfl rfl ?_
  refine cr_iaload (pc := 89) C rfl (by first | rfl | assumption | (simp [cg_ok]; omega)) (by omega) (by first | decide | omega) dX4_doesWrite_89 ?_
  rw [cg_sb_s]
  refine cr_iconst (pc := 90) (v := nI 1) C dX4_doesWrite_90 (by decide) ?_
  refine cr_iadd (pc := 91) C dX4_doesWrite_91 ?_
  refine cr_iastore (pc := 92) C rfl (by first | rfl | assumption | (simp [cg_ok]; omega)) (by omega) (by first | decide | omega) dX4_doesWrite_92 ?_
  rw [cg_up_sb]
  refine cr_aload_n (pc := 93) C dX4_doesWrite_93 rfl ?_
  refine cr_getr (pc := 94) (c := 4) (k := 0) C (by first | rfl | assumption | (simp [cg_ok]; omega)) rfl (by decide) rfl inX4_doesWrite_X4 flX4_doesWrite_7 dX4_doesWrite_94 ?_
  refine cr_iconst (pc := 97) (v := nI 4) C dX4_doesWrite_97 (by decide) ?_
  refine cr_iload_n (pc := 98) C dX4_doesWrite_98 rfl ?_
  refine cr_imul_n (pc := 99) C dX4_doesWrite_99 ?_
  rw [show 4 * r = 3 * r + r by omega]
  refine cr_dup2 (pc := 100) C dX4_doesWrite_100 rfl rfl ?_
  refine cr_iaload (pc := 101) C rfl (by first | rfl | assumption | (simp [cg_ok]; omega)) (by omega) (by first | decide | omega) dX4_doesWrite_101 ?_
  rw [cg_sb_s]
  rw [cg_un (by omega)]
  refine cr_iconst (pc := 102) (v := nI 1) C dX4_doesWrite_102 (by decide) ?_
  refine cr_iadd (pc := 103) C dX4_doesWrite_103 ?_
  refine cr_iastore (pc := 104) C rfl (by first | rfl | assumption | (simp [cg_ok]; omega)) (by omega) (by first | decide | omega) dX4_doesWrite_104 ?_
  rw [cg_up_sb]
  refine cr_aload_n (pc := 105) C dX4_doesWrite_105 rfl ?_
  refine cr_getr (pc := 106) (c := 4) (k := 0) C (by first | rfl | assumption | (simp [cg_ok]; omega)) rfl (by decide) rfl inX4_doesWrite_X4 flX4_doesWrite_7 dX4_doesWrite_106 ?_
  refine cr_iconst (pc := 109) (v := nI 4) C dX4_doesWrite_109 (by decide) ?_
  refine cr_iload_n (pc := 110) C dX4_doesWrite_110 rfl ?_
  refine cr_imul_n (pc := 111) C dX4_doesWrite_111 ?_
  try rw [show 4 * r = 3 * r + r by omega]
  refine cr_iaload (pc := 112) C rfl (by first | rfl | assumption | (simp [cg_ok]; omega)) (by omega) (by first | decide | omega) dX4_doesWrite_112 ?_
  rw [cg_sb_s]
  rw [cg_us]
  refine cr_istore6 (pc := 113) C dX4_doesWrite_113 (by decide) rfl ?_
  refine cr_bipush (pc := 115) (v := nI 13) C dX4_doesWrite_115 (by decide) ?_
  refine cr_iconst (pc := 117) (v := nI 5) C dX4_doesWrite_117 (by decide) ?_
  refine cr_aload_n (pc := 118) C dX4_doesWrite_118 rfl ?_
  refine cr_getr (pc := 119) (c := 4) (k := 0) C (by first | rfl | assumption | (simp [cg_ok]; omega)) rfl (by decide) rfl inX4_doesWrite_X4 flX4_doesWrite_7 dX4_doesWrite_119 ?_
  refine cr_bipush (pc := 122) (v := nI 12) C dX4_doesWrite_122 (by decide) ?_
  refine cr_iaload (pc := 124) C rfl (by first | rfl | assumption | (simp [cg_ok]; omega)) (by decide) (by first | decide | omega) dX4_doesWrite_124 ?_
  rw [cg_sb_s]
  rw [cg_un (by omega), cg_un (by omega), hA12]
  refine cr_imul_n (pc := 125) C dX4_doesWrite_125 ?_
  refine cr_iadd_n (pc := 126) C dX4_doesWrite_126 ?_
  refine cr_istore7 (pc := 127) C dX4_doesWrite_127 (by decide) rfl ?_
  refine cr_aload_n (pc := 129) C dX4_doesWrite_129 rfl ?_
  refine cr_getr (pc := 130) (c := 4) (k := 0) C (by first | rfl | assumption | (simp [cg_ok]; omega)) rfl (by decide) rfl inX4_doesWrite_X4 flX4_doesWrite_7 dX4_doesWrite_130 ?_
  refine cr_iload (pc := 133) C dX4_doesWrite_133 rfl ?_
  refine cr_iload_n (pc := 135) C dX4_doesWrite_135 rfl ?_
  refine cr_iastore (pc := 136) C rfl (by first | rfl | assumption | (simp [cg_ok]; omega)) (by omega) (by first | decide | omega) dX4_doesWrite_136 ?_
  rw [cg_up_sb]
  refine cr_aload_n (pc := 137) C dX4_doesWrite_137 rfl ?_
  refine cr_getr (pc := 138) (c := 4) (k := 0) C (by first | rfl | assumption | (simp [cg_ok]; omega)) rfl (by decide) rfl inX4_doesWrite_X4 flX4_doesWrite_7 dX4_doesWrite_138 ?_
  refine cr_iload (pc := 141) C dX4_doesWrite_141 rfl ?_
  refine cr_iconst (pc := 143) (v := nI 1) C dX4_doesWrite_143 (by decide) ?_
  refine cr_iadd_n (pc := 144) C dX4_doesWrite_144 ?_
  rw [show 13 + 5 * n + 1 = 14 + 5 * n by omega]
  refine cr_iload (pc := 145) C dX4_doesWrite_145 rfl ?_
  refine cr_iastore (pc := 147) C rfl (by first | rfl | assumption | (simp [cg_ok]; omega)) (by omega) (by first | decide | omega) dX4_doesWrite_147 ?_
  rw [cg_up_sb]
  refine cr_aload_n (pc := 148) C dX4_doesWrite_148 rfl ?_
  refine cr_getr (pc := 149) (c := 4) (k := 0) C (by first | rfl | assumption | (simp [cg_ok]; omega)) rfl (by decide) rfl inX4_doesWrite_X4 flX4_doesWrite_7 dX4_doesWrite_149 ?_
  refine cr_iload (pc := 152) C dX4_doesWrite_152 rfl ?_
  refine cr_iconst (pc := 154) (v := nI 2) C dX4_doesWrite_154 (by decide) ?_
  refine cr_iadd_n (pc := 155) C dX4_doesWrite_155 ?_
  rw [show 13 + 5 * n + 2 = 15 + 5 * n by omega]
  refine cr_iload_n (pc := 156) C dX4_doesWrite_156 rfl ?_
  refine cr_iastore (pc := 157) C rfl (by first | rfl | assumption | (simp [cg_ok]; omega)) (by omega) (by first | decide | omega) dX4_doesWrite_157 ?_
  rw [cg_up_sb]
  refine cr_aload_n (pc := 158) C dX4_doesWrite_158 rfl ?_
  refine cr_getr (pc := 159) (c := 4) (k := 0) C (by first | rfl | assumption | (simp [cg_ok]; omega)) rfl (by decide) rfl inX4_doesWrite_X4 flX4_doesWrite_7 dX4_doesWrite_159 ?_
  refine cr_iload (pc := 162) C dX4_doesWrite_162 rfl ?_
  refine cr_iconst (pc := 164) (v := nI 3) C dX4_doesWrite_164 (by decide) ?_
  refine cr_iadd_n (pc := 165) C dX4_doesWrite_165 ?_
  rw [show 13 + 5 * n + 3 = 16 + 5 * n by omega]
  refine cr_iload (pc := 166) C dX4_doesWrite_166 rfl ?_
  refine cr_iastore (pc := 168) C rfl (by first | rfl | assumption | (simp [cg_ok]; omega)) (by omega) (by first | decide | omega) dX4_doesWrite_168 ?_
  rw [cg_up_sb]
  refine cr_aload_n (pc := 169) C dX4_doesWrite_169 rfl ?_
  refine cr_getr (pc := 170) (c := 4) (k := 0) C (by first | rfl | assumption | (simp [cg_ok]; omega)) rfl (by decide) rfl inX4_doesWrite_X4 flX4_doesWrite_7 dX4_doesWrite_170 ?_
  refine cr_iload (pc := 173) C dX4_doesWrite_173 rfl ?_
  refine cr_iconst (pc := 175) (v := nI 4) C dX4_doesWrite_175 (by decide) ?_
  refine cr_iadd_n (pc := 176) C dX4_doesWrite_176 ?_
  rw [show 13 + 5 * n + 4 = 17 + 5 * n by omega]
  refine cr_aload_n (pc := 177) C dX4_doesWrite_177 rfl ?_
  refine cr_getr (pc := 178) (c := 4) (k := 0) C (by first | rfl | assumption | (simp [cg_ok]; omega)) rfl (by decide) rfl inX4_doesWrite_X4 flX4_doesWrite_7 dX4_doesWrite_178 ?_
  refine cr_bipush (pc := 181) (v := nI 9) C dX4_doesWrite_181 (by decide) ?_
  refine cr_iload_n (pc := 183) C dX4_doesWrite_183 rfl ?_
  refine cr_iadd_n (pc := 184) C dX4_doesWrite_184 ?_
  refine cr_iaload (pc := 185) C rfl (by first | rfl | assumption | (simp [cg_ok]; omega)) (by omega) (by first | decide | omega) dX4_doesWrite_185 ?_
  rw [cg_sb_s]
  rw [cg_un (by omega), cg_un (by omega), cg_un (by omega), cg_un (by omega), cg_un (by omega), cg_us]
  refine cr_iastore (pc := 186) C rfl (by first | rfl | assumption | (simp [cg_ok]; omega)) (by omega) (by first | decide | omega) dX4_doesWrite_186 ?_
  rw [cg_up_sb]
  refine cr_aload_n (pc := 187) C dX4_doesWrite_187 rfl ?_
  refine cr_getr (pc := 188) (c := 4) (k := 0) C (by first | rfl | assumption | (simp [cg_ok]; omega)) rfl (by decide) rfl inX4_doesWrite_X4 flX4_doesWrite_7 dX4_doesWrite_188 ?_
  refine cr_bipush (pc := 191) (v := nI 12) C dX4_doesWrite_191 (by decide) ?_
  refine cr_dup2 (pc := 193) C dX4_doesWrite_193 rfl rfl ?_
  refine cr_iaload (pc := 194) C rfl (by first | rfl | assumption | (simp [cg_ok]; omega)) (by decide) (by first | decide | omega) dX4_doesWrite_194 ?_
  rw [cg_sb_s]
  rw [cg_un (by omega), cg_un (by omega), cg_un (by omega), cg_un (by omega), cg_un (by omega), cg_un (by omega), cg_un (by omega), hA12]
  refine cr_iconst (pc := 195) (v := nI 1) C dX4_doesWrite_195 (by decide) ?_
  refine cr_iadd_n (pc := 196) C dX4_doesWrite_196 ?_
  refine cr_iastore (pc := 197) C rfl (by first | rfl | assumption | (simp [cg_ok]; omega)) (by decide) (by first | decide | omega) dX4_doesWrite_197 ?_
  rw [cg_up_sb]
  refine cr_aload_n (pc := 198) C dX4_doesWrite_198 rfl ?_
  refine cr_getr (pc := 199) (c := 4) (k := 0) C (by first | rfl | assumption | (simp [cg_ok]; omega)) rfl (by decide) rfl inX4_doesWrite_X4 flX4_doesWrite_7 dX4_doesWrite_199 ?_
  refine cr_sipush (pc := 202) (v := nI 313) C dX4_doesWrite_202 (by decide) ?_
  refine cr_bipush (pc := 205) (v := nI 7) C dX4_doesWrite_205 (by decide) ?_
  refine cr_iload_n (pc := 207) C dX4_doesWrite_207 rfl ?_
  refine cr_imul_n (pc := 208) C dX4_doesWrite_208 ?_
  refine cr_iadd_n (pc := 209) C dX4_doesWrite_209 ?_
  refine cr_iconst (pc := 210) (v := nI 4) C dX4_doesWrite_210 (by decide) ?_
  refine cr_iadd_n (pc := 211) C dX4_doesWrite_211 ?_
  refine cr_iload_n (pc := 212) C dX4_doesWrite_212 rfl ?_
  refine cr_iadd_n (pc := 213) C dX4_doesWrite_213 ?_
  rw [show 313 + 7 * c + 4 + r = 317 + 7 * c + r by omega]
  refine cr_iload (pc := 214) C dX4_doesWrite_214 rfl ?_
  refine cr_iastore (pc := 216) C rfl (by first | rfl | assumption | (simp [cg_ok]; omega)) (by omega) (by first | decide | omega) dX4_doesWrite_216 ?_
  rw [cg_up_sb]
  refine cr_iload (pc := 217) C dX4_doesWrite_217 rfl ?_
  refine cr_ireturn (pc := 219) C X dX4_doesWrite_219 ?_
  exact ⟨by rw [hA, cg_cb_lt (by omega)], by rw [cg_wrm hc hr hn60, hA]⟩
set_option maxRecDepth 100000 in
set_option maxHeartbeats 4000000 in
theorem sm_wK0 {M : cg_M} {P : Nat → Int32} {x y z t : Int32} (h : ¬ (cg_in x 4 ∧ cg_in y 3 ∧ cg_in z 4 ∧ cg_in t 100)) : cg_D yX4_doesWrite wsX4_doesWrite rmX4_doesWrite [.inr (.inr (4, 0, 0, 0)), .inl (x), .inl (y), .inl (z), .inl (t)] (cg_sb M 20 P) (some (.inl (-2))) ((cg_sb M 20 P)) := by
  rcases Classical.em (cg_in x 4) with ⟨c, hc, rfl⟩ | hx
  rcases Classical.em (cg_in y 3) with ⟨r, hr, rfl⟩ | hy
  rcases Classical.em (cg_in z 4) with ⟨k, hk, rfl⟩ | hz
  · refine cg_S_of (cc := cX4_doesWrite) (maxL := 8) (ret := (some .int)) (ls0 := [some (.inr (.inr (4, 0, 0, 0))), some (.inl (nI c)), some (.inl (nI r)), some (.inl (nI k)), some (.inl (t)), none, none, none]) RX4 rfl (by decide) rfl rfl (Nat.le_of_ble_eq_true rfl) (fun E C X => ?_)
    refine cr_iload_n (pc := 0) C dX4_doesWrite_0 rfl ?_
    refine cr_dS (pc := 1) C (sm_isClient1 hc) rfl gX4_doesWrite_X4_isClient rfl dX4_doesWrite_1 hsX4_isClient rfl ⟨rfl, rfl, Nat.le_of_ble_eq_true rfl, Nat.le_of_ble_eq_true rfl⟩ (Nat.le_of_ble_eq_true rfl) rfl ?_
    refine cr_if_eq_f (pc := 4) (tgt := 34) C dX4_doesWrite_4 (by decide) (by decide) ?_
    refine cr_iload_n (pc := 7) C dX4_doesWrite_7 rfl ?_
    refine cr_dS (pc := 8) C (sm_isReplica1 hr) rfl gX4_doesWrite_X4_isReplica rfl dX4_doesWrite_8 hsX4_isReplica rfl ⟨rfl, rfl, Nat.le_of_ble_eq_true rfl, Nat.le_of_ble_eq_true rfl⟩ (Nat.le_of_ble_eq_true rfl) rfl ?_
    refine cr_if_eq_f (pc := 11) (tgt := 34) C dX4_doesWrite_11 (by decide) (by decide) ?_
    refine cr_iload_n (pc := 14) C dX4_doesWrite_14 rfl ?_
    refine cr_dS (pc := 15) C (sm_isKey1 hk) rfl gX4_doesWrite_X4_isKey rfl dX4_doesWrite_15 hsX4_isKey rfl ⟨rfl, rfl, Nat.le_of_ble_eq_true rfl, Nat.le_of_ble_eq_true rfl⟩ (Nat.le_of_ble_eq_true rfl) rfl ?_
    refine cr_if_eq_f (pc := 18) (tgt := 34) C dX4_doesWrite_18 (by decide) (by decide) ?_
    refine cr_iload (pc := 21) C dX4_doesWrite_21 rfl ?_
    refine cr_i2l (pc := 23) C dX4_doesWrite_23 ?_
    refine cr_lconst (pc := 24) (v := 0) C dX4_doesWrite_24 rfl ?_
    refine cr_ldc2 (pc := 25) C dX4_doesWrite_25 klX4_doesWrite_96 ?_
    refine cr_dS (pc := 28) C (sm_in0 (fun q => (fun q => h ⟨⟨_, hc, rfl⟩, ⟨_, hr, rfl⟩, ⟨_, hk, rfl⟩, q⟩) ((cg_in64 (n := 99) (by decide)).mp q))) rfl gX4_doesWrite_X4_in rfl dX4_doesWrite_28 hsX4_in rfl ⟨rfl, rfl, Nat.le_of_ble_eq_true rfl, Nat.le_of_ble_eq_true rfl⟩ (Nat.le_of_ble_eq_true rfl) rfl ?_
    refine cr_if_ne_f (pc := 31) (tgt := 37) C dX4_doesWrite_31 (by decide) (by decide) ?_
    refine cr_bipush (pc := 34) (v := (-2)) C dX4_doesWrite_34 (by decide) ?_
    refine cr_ireturn (pc := 36) C X dX4_doesWrite_36 ?_
    exact ⟨rfl, rfl⟩
  · refine cg_S_of (cc := cX4_doesWrite) (maxL := 8) (ret := (some .int)) (ls0 := [some (.inr (.inr (4, 0, 0, 0))), some (.inl (nI c)), some (.inl (nI r)), some (.inl (z)), some (.inl (t)), none, none, none]) RX4 rfl (by decide) rfl rfl (Nat.le_of_ble_eq_true rfl) (fun E C X => ?_)
    refine cr_iload_n (pc := 0) C dX4_doesWrite_0 rfl ?_
    refine cr_dS (pc := 1) C (sm_isClient1 hc) rfl gX4_doesWrite_X4_isClient rfl dX4_doesWrite_1 hsX4_isClient rfl ⟨rfl, rfl, Nat.le_of_ble_eq_true rfl, Nat.le_of_ble_eq_true rfl⟩ (Nat.le_of_ble_eq_true rfl) rfl ?_
    refine cr_if_eq_f (pc := 4) (tgt := 34) C dX4_doesWrite_4 (by decide) (by decide) ?_
    refine cr_iload_n (pc := 7) C dX4_doesWrite_7 rfl ?_
    refine cr_dS (pc := 8) C (sm_isReplica1 hr) rfl gX4_doesWrite_X4_isReplica rfl dX4_doesWrite_8 hsX4_isReplica rfl ⟨rfl, rfl, Nat.le_of_ble_eq_true rfl, Nat.le_of_ble_eq_true rfl⟩ (Nat.le_of_ble_eq_true rfl) rfl ?_
    refine cr_if_eq_f (pc := 11) (tgt := 34) C dX4_doesWrite_11 (by decide) (by decide) ?_
    refine cr_iload_n (pc := 14) C dX4_doesWrite_14 rfl ?_
    refine cr_dS (pc := 15) C (sm_isKey0 hz) rfl gX4_doesWrite_X4_isKey rfl dX4_doesWrite_15 hsX4_isKey rfl ⟨rfl, rfl, Nat.le_of_ble_eq_true rfl, Nat.le_of_ble_eq_true rfl⟩ (Nat.le_of_ble_eq_true rfl) rfl ?_
    refine cr_if_eq_t (pc := 18) (tgt := 34) C dX4_doesWrite_18 (by decide) (by decide) ?_
    refine cr_bipush (pc := 34) (v := (-2)) C dX4_doesWrite_34 (by decide) ?_
    refine cr_ireturn (pc := 36) C X dX4_doesWrite_36 ?_
    exact ⟨rfl, rfl⟩
  · refine cg_S_of (cc := cX4_doesWrite) (maxL := 8) (ret := (some .int)) (ls0 := [some (.inr (.inr (4, 0, 0, 0))), some (.inl (nI c)), some (.inl (y)), some (.inl (z)), some (.inl (t)), none, none, none]) RX4 rfl (by decide) rfl rfl (Nat.le_of_ble_eq_true rfl) (fun E C X => ?_)
    refine cr_iload_n (pc := 0) C dX4_doesWrite_0 rfl ?_
    refine cr_dS (pc := 1) C (sm_isClient1 hc) rfl gX4_doesWrite_X4_isClient rfl dX4_doesWrite_1 hsX4_isClient rfl ⟨rfl, rfl, Nat.le_of_ble_eq_true rfl, Nat.le_of_ble_eq_true rfl⟩ (Nat.le_of_ble_eq_true rfl) rfl ?_
    refine cr_if_eq_f (pc := 4) (tgt := 34) C dX4_doesWrite_4 (by decide) (by decide) ?_
    refine cr_iload_n (pc := 7) C dX4_doesWrite_7 rfl ?_
    refine cr_dS (pc := 8) C (sm_isReplica0 hy) rfl gX4_doesWrite_X4_isReplica rfl dX4_doesWrite_8 hsX4_isReplica rfl ⟨rfl, rfl, Nat.le_of_ble_eq_true rfl, Nat.le_of_ble_eq_true rfl⟩ (Nat.le_of_ble_eq_true rfl) rfl ?_
    refine cr_if_eq_t (pc := 11) (tgt := 34) C dX4_doesWrite_11 (by decide) (by decide) ?_
    refine cr_bipush (pc := 34) (v := (-2)) C dX4_doesWrite_34 (by decide) ?_
    refine cr_ireturn (pc := 36) C X dX4_doesWrite_36 ?_
    exact ⟨rfl, rfl⟩
  · refine cg_S_of (cc := cX4_doesWrite) (maxL := 8) (ret := (some .int)) (ls0 := [some (.inr (.inr (4, 0, 0, 0))), some (.inl (x)), some (.inl (y)), some (.inl (z)), some (.inl (t)), none, none, none]) RX4 rfl (by decide) rfl rfl (Nat.le_of_ble_eq_true rfl) (fun E C X => ?_)
    refine cr_iload_n (pc := 0) C dX4_doesWrite_0 rfl ?_
    refine cr_dS (pc := 1) C (sm_isClient0 hx) rfl gX4_doesWrite_X4_isClient rfl dX4_doesWrite_1 hsX4_isClient rfl ⟨rfl, rfl, Nat.le_of_ble_eq_true rfl, Nat.le_of_ble_eq_true rfl⟩ (Nat.le_of_ble_eq_true rfl) rfl ?_
    refine cr_if_eq_t (pc := 4) (tgt := 34) C dX4_doesWrite_4 (by decide) (by decide) ?_
    refine cr_bipush (pc := 34) (v := (-2)) C dX4_doesWrite_34 (by decide) ?_
    refine cr_ireturn (pc := 36) C X dX4_doesWrite_36 ?_
    exact ⟨rfl, rfl⟩
set_option maxRecDepth 100000 in
set_option maxHeartbeats 4000000 in
theorem sm_sync1 {M : cg_M} {P : Nat → Int32} {f t n : Nat} (hf : f < 3) (ht : t < 3) (hne : f ≠ t) (hI : cg_Iw P n) : cg_D yX4_doesSync wsX4_doesSync rmX4_doesSync [.inr (.inr (4, 0, 0, 0)), .inl (nI f), .inl (nI t)] (cg_sb M 20 P) (some (.inl (nI (cg_sy P f t n).1))) (cg_sb M 20 (cg_sp P f t n)) := by
  refine cg_S_of (cc := cX4_doesSync) (maxL := 7) (ret := (some .int)) (ls0 := [some (.inr (.inr (4, 0, 0, 0))), some (.inl (nI f)), some (.inl (nI t)), none, none, none, none]) RX4 rfl (by decide) rfl rfl (Nat.le_of_ble_eq_true rfl) (fun E C X => ?_)
  have hK3 : ∀ (A : Nat → Int32) (z5 z6 : Option cg_V), A = cg_sp P f t n → cg_W E (cg_sb M 20 A) 164 [some (.inr (.inr (4, 0, 0, 0))), some (.inl (nI f)), some (.inl (nI t)), some (.inl (nI (cg_sy P f t n).1)), some (.inl (nI 3)), z5, z6] [] := by
    intro A z5 z6 ha
    refine cr_iload (pc := 164) C dX4_doesSync_164 rfl ?_
    refine cr_iconst (pc := 166) (v := nI 3) C dX4_doesSync_166 (by decide) ?_
    refine cr_icmp_ge_t (pc := 167) (tgt := 232) C dX4_doesSync_167 (by decide) (by decide) ?_
    refine cr_iload_n (pc := 232) C dX4_doesSync_232 rfl ?_
    refine cr_ireturn (pc := 233) C X dX4_doesSync_233 ?_
    exact ⟨rfl, by rw [← ha]⟩
  have hK2 : ∀ (A : Nat → Int32) (z5 z6 : Option cg_V), (cg_m1 (3 * f) (3 * t) 2 A) = cg_sp P f t n → cg_W E (cg_sb M 20 A) 164 [some (.inr (.inr (4, 0, 0, 0))), some (.inl (nI f)), some (.inl (nI t)), some (.inl (nI (cg_sy P f t n).1)), some (.inl (nI 2)), z5, z6] [] := by
    intro A z5 z6 ha
    by_cases hle : A (3 * f + 2) ≤ A (3 * t + 2)
    · have e1 : A (3 * t + 2) = cg_mx (A (3 * t + 2)) (A (3 * f + 2)) := cg_mx_le hle
      refine cr_iload (pc := 164) C dX4_doesSync_164 rfl ?_
      refine cr_iconst (pc := 166) (v := nI 3) C dX4_doesSync_166 (by decide) ?_
      refine cr_icmp_ge_f (pc := 167) (tgt := 232) C dX4_doesSync_167 (by decide) (by decide) ?_
      refine cr_aload_n (pc := 170) C dX4_doesSync_170 rfl ?_
      refine cr_getr (pc := 171) (c := 4) (k := 0) C (by first | rfl | assumption | (simp [cg_ok]; omega)) rfl (by decide) rfl inX4_doesSync_X4 flX4_doesSync_7 dX4_doesSync_171 ?_
      refine cr_iconst (pc := 174) (v := nI 3) C dX4_doesSync_174 (by decide) ?_
      refine cr_iload_n (pc := 175) C dX4_doesSync_175 rfl ?_
      refine cr_imul_n (pc := 176) C dX4_doesSync_176 ?_
      refine cr_iload (pc := 177) C dX4_doesSync_177 rfl ?_
      refine cr_iadd_n (pc := 179) C dX4_doesSync_179 ?_
      refine cr_iaload (pc := 180) C rfl (by first | rfl | assumption | (simp [cg_ok]; omega)) (by omega) (by first | decide | omega) dX4_doesSync_180 ?_
      rw [cg_sb_s]
      refine cr_istore5 (pc := 181) C dX4_doesSync_181 (by decide) rfl ?_
      refine cr_aload_n (pc := 183) C dX4_doesSync_183 rfl ?_
      refine cr_getr (pc := 184) (c := 4) (k := 0) C (by first | rfl | assumption | (simp [cg_ok]; omega)) rfl (by decide) rfl inX4_doesSync_X4 flX4_doesSync_7 dX4_doesSync_184 ?_
      refine cr_iconst (pc := 187) (v := nI 3) C dX4_doesSync_187 (by decide) ?_
      refine cr_iload_n (pc := 188) C dX4_doesSync_188 rfl ?_
      refine cr_imul_n (pc := 189) C dX4_doesSync_189 ?_
      refine cr_iload (pc := 190) C dX4_doesSync_190 rfl ?_
      refine cr_iadd_n (pc := 192) C dX4_doesSync_192 ?_
      refine cr_iload (pc := 193) C dX4_doesSync_193 rfl ?_
      refine cr_aload_n (pc := 195) C dX4_doesSync_195 rfl ?_
      refine cr_getr (pc := 196) (c := 4) (k := 0) C (by first | rfl | assumption | (simp [cg_ok]; omega)) rfl (by decide) rfl inX4_doesSync_X4 flX4_doesSync_7 dX4_doesSync_196 ?_
      refine cr_iconst (pc := 199) (v := nI 3) C dX4_doesSync_199 (by decide) ?_
      refine cr_iload_n (pc := 200) C dX4_doesSync_200 rfl ?_
      refine cr_imul_n (pc := 201) C dX4_doesSync_201 ?_
      refine cr_iload (pc := 202) C dX4_doesSync_202 rfl ?_
      refine cr_iadd_n (pc := 204) C dX4_doesSync_204 ?_
      refine cr_iaload (pc := 205) C rfl (by first | rfl | assumption | (simp [cg_ok]; omega)) (by omega) (by first | decide | omega) dX4_doesSync_205 ?_
      rw [cg_sb_s]
      refine cr_icmp_le_t (pc := 206) (tgt := 214) C dX4_doesSync_206 (by decide) hle ?_
      refine cr_aload_n (pc := 214) C dX4_doesSync_214 rfl ?_
      refine cr_getr (pc := 215) (c := 4) (k := 0) C (by first | rfl | assumption | (simp [cg_ok]; omega)) rfl (by decide) rfl inX4_doesSync_X4 flX4_doesSync_7 dX4_doesSync_215 ?_
      refine cr_iconst (pc := 218) (v := nI 3) C dX4_doesSync_218 (by decide) ?_
      refine cr_iload_n (pc := 219) C dX4_doesSync_219 rfl ?_
      refine cr_imul_n (pc := 220) C dX4_doesSync_220 ?_
      refine cr_iload (pc := 221) C dX4_doesSync_221 rfl ?_
      refine cr_iadd_n (pc := 223) C dX4_doesSync_223 ?_
      refine cr_iaload (pc := 224) C rfl (by first | rfl | assumption | (simp [cg_ok]; omega)) (by omega) (by first | decide | omega) dX4_doesSync_224 ?_
      rw [cg_sb_s]
      refine cr_top e1 ?_
      refine cr_iastore (pc := 225) C rfl (by first | rfl | assumption | (simp [cg_ok]; omega)) (by omega) (by first | decide | omega) dX4_doesSync_225 ?_
      rw [cg_up_sb]
      refine cr_iinc4 (pc := 226) (v := nI 3) C dX4_doesSync_226 (by decide) (by decide) rfl ?_
      refine cr_goto (pc := 229) (tgt := 164) C dX4_doesSync_229 (by decide) ?_
      exact hK3 _ _ _ ha
    · have e1 : A (3 * f + 2) = cg_mx (A (3 * t + 2)) (A (3 * f + 2)) := cg_mx_gt hle
      refine cr_iload (pc := 164) C dX4_doesSync_164 rfl ?_
      refine cr_iconst (pc := 166) (v := nI 3) C dX4_doesSync_166 (by decide) ?_
      refine cr_icmp_ge_f (pc := 167) (tgt := 232) C dX4_doesSync_167 (by decide) (by decide) ?_
      refine cr_aload_n (pc := 170) C dX4_doesSync_170 rfl ?_
      refine cr_getr (pc := 171) (c := 4) (k := 0) C (by first | rfl | assumption | (simp [cg_ok]; omega)) rfl (by decide) rfl inX4_doesSync_X4 flX4_doesSync_7 dX4_doesSync_171 ?_
      refine cr_iconst (pc := 174) (v := nI 3) C dX4_doesSync_174 (by decide) ?_
      refine cr_iload_n (pc := 175) C dX4_doesSync_175 rfl ?_
      refine cr_imul_n (pc := 176) C dX4_doesSync_176 ?_
      refine cr_iload (pc := 177) C dX4_doesSync_177 rfl ?_
      refine cr_iadd_n (pc := 179) C dX4_doesSync_179 ?_
      refine cr_iaload (pc := 180) C rfl (by first | rfl | assumption | (simp [cg_ok]; omega)) (by omega) (by first | decide | omega) dX4_doesSync_180 ?_
      rw [cg_sb_s]
      refine cr_istore5 (pc := 181) C dX4_doesSync_181 (by decide) rfl ?_
      refine cr_aload_n (pc := 183) C dX4_doesSync_183 rfl ?_
      refine cr_getr (pc := 184) (c := 4) (k := 0) C (by first | rfl | assumption | (simp [cg_ok]; omega)) rfl (by decide) rfl inX4_doesSync_X4 flX4_doesSync_7 dX4_doesSync_184 ?_
      refine cr_iconst (pc := 187) (v := nI 3) C dX4_doesSync_187 (by decide) ?_
      refine cr_iload_n (pc := 188) C dX4_doesSync_188 rfl ?_
      refine cr_imul_n (pc := 189) C dX4_doesSync_189 ?_
      refine cr_iload (pc := 190) C dX4_doesSync_190 rfl ?_
      refine cr_iadd_n (pc := 192) C dX4_doesSync_192 ?_
      refine cr_iload (pc := 193) C dX4_doesSync_193 rfl ?_
      refine cr_aload_n (pc := 195) C dX4_doesSync_195 rfl ?_
      refine cr_getr (pc := 196) (c := 4) (k := 0) C (by first | rfl | assumption | (simp [cg_ok]; omega)) rfl (by decide) rfl inX4_doesSync_X4 flX4_doesSync_7 dX4_doesSync_196 ?_
      refine cr_iconst (pc := 199) (v := nI 3) C dX4_doesSync_199 (by decide) ?_
      refine cr_iload_n (pc := 200) C dX4_doesSync_200 rfl ?_
      refine cr_imul_n (pc := 201) C dX4_doesSync_201 ?_
      refine cr_iload (pc := 202) C dX4_doesSync_202 rfl ?_
      refine cr_iadd_n (pc := 204) C dX4_doesSync_204 ?_
      refine cr_iaload (pc := 205) C rfl (by first | rfl | assumption | (simp [cg_ok]; omega)) (by omega) (by first | decide | omega) dX4_doesSync_205 ?_
      rw [cg_sb_s]
      refine cr_icmp_le_f (pc := 206) (tgt := 214) C dX4_doesSync_206 (by decide) hle ?_
      refine cr_iload (pc := 209) C dX4_doesSync_209 rfl ?_
      refine cr_goto (pc := 211) (tgt := 225) C dX4_doesSync_211 (by decide) ?_
      refine cr_top e1 ?_
      refine cr_iastore (pc := 225) C rfl (by first | rfl | assumption | (simp [cg_ok]; omega)) (by omega) (by first | decide | omega) dX4_doesSync_225 ?_
      rw [cg_up_sb]
      refine cr_iinc4 (pc := 226) (v := nI 3) C dX4_doesSync_226 (by decide) (by decide) rfl ?_
      refine cr_goto (pc := 229) (tgt := 164) C dX4_doesSync_229 (by decide) ?_
      exact hK3 _ _ _ ha
  have hK1 : ∀ (A : Nat → Int32) (z5 z6 : Option cg_V), (cg_m1 (3 * f) (3 * t) 2 (cg_m1 (3 * f) (3 * t) 1 A)) = cg_sp P f t n → cg_W E (cg_sb M 20 A) 164 [some (.inr (.inr (4, 0, 0, 0))), some (.inl (nI f)), some (.inl (nI t)), some (.inl (nI (cg_sy P f t n).1)), some (.inl (nI 1)), z5, z6] [] := by
    intro A z5 z6 ha
    by_cases hle : A (3 * f + 1) ≤ A (3 * t + 1)
    · have e1 : A (3 * t + 1) = cg_mx (A (3 * t + 1)) (A (3 * f + 1)) := cg_mx_le hle
      refine cr_iload (pc := 164) C dX4_doesSync_164 rfl ?_
      refine cr_iconst (pc := 166) (v := nI 3) C dX4_doesSync_166 (by decide) ?_
      refine cr_icmp_ge_f (pc := 167) (tgt := 232) C dX4_doesSync_167 (by decide) (by decide) ?_
      refine cr_aload_n (pc := 170) C dX4_doesSync_170 rfl ?_
      refine cr_getr (pc := 171) (c := 4) (k := 0) C (by first | rfl | assumption | (simp [cg_ok]; omega)) rfl (by decide) rfl inX4_doesSync_X4 flX4_doesSync_7 dX4_doesSync_171 ?_
      refine cr_iconst (pc := 174) (v := nI 3) C dX4_doesSync_174 (by decide) ?_
      refine cr_iload_n (pc := 175) C dX4_doesSync_175 rfl ?_
      refine cr_imul_n (pc := 176) C dX4_doesSync_176 ?_
      refine cr_iload (pc := 177) C dX4_doesSync_177 rfl ?_
      refine cr_iadd_n (pc := 179) C dX4_doesSync_179 ?_
      refine cr_iaload (pc := 180) C rfl (by first | rfl | assumption | (simp [cg_ok]; omega)) (by omega) (by first | decide | omega) dX4_doesSync_180 ?_
      rw [cg_sb_s]
      refine cr_istore5 (pc := 181) C dX4_doesSync_181 (by decide) rfl ?_
      refine cr_aload_n (pc := 183) C dX4_doesSync_183 rfl ?_
      refine cr_getr (pc := 184) (c := 4) (k := 0) C (by first | rfl | assumption | (simp [cg_ok]; omega)) rfl (by decide) rfl inX4_doesSync_X4 flX4_doesSync_7 dX4_doesSync_184 ?_
      refine cr_iconst (pc := 187) (v := nI 3) C dX4_doesSync_187 (by decide) ?_
      refine cr_iload_n (pc := 188) C dX4_doesSync_188 rfl ?_
      refine cr_imul_n (pc := 189) C dX4_doesSync_189 ?_
      refine cr_iload (pc := 190) C dX4_doesSync_190 rfl ?_
      refine cr_iadd_n (pc := 192) C dX4_doesSync_192 ?_
      refine cr_iload (pc := 193) C dX4_doesSync_193 rfl ?_
      refine cr_aload_n (pc := 195) C dX4_doesSync_195 rfl ?_
      refine cr_getr (pc := 196) (c := 4) (k := 0) C (by first | rfl | assumption | (simp [cg_ok]; omega)) rfl (by decide) rfl inX4_doesSync_X4 flX4_doesSync_7 dX4_doesSync_196 ?_
      refine cr_iconst (pc := 199) (v := nI 3) C dX4_doesSync_199 (by decide) ?_
      refine cr_iload_n (pc := 200) C dX4_doesSync_200 rfl ?_
      refine cr_imul_n (pc := 201) C dX4_doesSync_201 ?_
      refine cr_iload (pc := 202) C dX4_doesSync_202 rfl ?_
      refine cr_iadd_n (pc := 204) C dX4_doesSync_204 ?_
      refine cr_iaload (pc := 205) C rfl (by first | rfl | assumption | (simp [cg_ok]; omega)) (by omega) (by first | decide | omega) dX4_doesSync_205 ?_
      rw [cg_sb_s]
      refine cr_icmp_le_t (pc := 206) (tgt := 214) C dX4_doesSync_206 (by decide) hle ?_
      refine cr_aload_n (pc := 214) C dX4_doesSync_214 rfl ?_
      refine cr_getr (pc := 215) (c := 4) (k := 0) C (by first | rfl | assumption | (simp [cg_ok]; omega)) rfl (by decide) rfl inX4_doesSync_X4 flX4_doesSync_7 dX4_doesSync_215 ?_
      refine cr_iconst (pc := 218) (v := nI 3) C dX4_doesSync_218 (by decide) ?_
      refine cr_iload_n (pc := 219) C dX4_doesSync_219 rfl ?_
      refine cr_imul_n (pc := 220) C dX4_doesSync_220 ?_
      refine cr_iload (pc := 221) C dX4_doesSync_221 rfl ?_
      refine cr_iadd_n (pc := 223) C dX4_doesSync_223 ?_
      refine cr_iaload (pc := 224) C rfl (by first | rfl | assumption | (simp [cg_ok]; omega)) (by omega) (by first | decide | omega) dX4_doesSync_224 ?_
      rw [cg_sb_s]
      refine cr_top e1 ?_
      refine cr_iastore (pc := 225) C rfl (by first | rfl | assumption | (simp [cg_ok]; omega)) (by omega) (by first | decide | omega) dX4_doesSync_225 ?_
      rw [cg_up_sb]
      refine cr_iinc4 (pc := 226) (v := nI 2) C dX4_doesSync_226 (by decide) (by decide) rfl ?_
      refine cr_goto (pc := 229) (tgt := 164) C dX4_doesSync_229 (by decide) ?_
      exact hK2 _ _ _ ha
    · have e1 : A (3 * f + 1) = cg_mx (A (3 * t + 1)) (A (3 * f + 1)) := cg_mx_gt hle
      refine cr_iload (pc := 164) C dX4_doesSync_164 rfl ?_
      refine cr_iconst (pc := 166) (v := nI 3) C dX4_doesSync_166 (by decide) ?_
      refine cr_icmp_ge_f (pc := 167) (tgt := 232) C dX4_doesSync_167 (by decide) (by decide) ?_
      refine cr_aload_n (pc := 170) C dX4_doesSync_170 rfl ?_
      refine cr_getr (pc := 171) (c := 4) (k := 0) C (by first | rfl | assumption | (simp [cg_ok]; omega)) rfl (by decide) rfl inX4_doesSync_X4 flX4_doesSync_7 dX4_doesSync_171 ?_
      refine cr_iconst (pc := 174) (v := nI 3) C dX4_doesSync_174 (by decide) ?_
      refine cr_iload_n (pc := 175) C dX4_doesSync_175 rfl ?_
      refine cr_imul_n (pc := 176) C dX4_doesSync_176 ?_
      refine cr_iload (pc := 177) C dX4_doesSync_177 rfl ?_
      refine cr_iadd_n (pc := 179) C dX4_doesSync_179 ?_
      refine cr_iaload (pc := 180) C rfl (by first | rfl | assumption | (simp [cg_ok]; omega)) (by omega) (by first | decide | omega) dX4_doesSync_180 ?_
      rw [cg_sb_s]
      refine cr_istore5 (pc := 181) C dX4_doesSync_181 (by decide) rfl ?_
      refine cr_aload_n (pc := 183) C dX4_doesSync_183 rfl ?_
      refine cr_getr (pc := 184) (c := 4) (k := 0) C (by first | rfl | assumption | (simp [cg_ok]; omega)) rfl (by decide) rfl inX4_doesSync_X4 flX4_doesSync_7 dX4_doesSync_184 ?_
      refine cr_iconst (pc := 187) (v := nI 3) C dX4_doesSync_187 (by decide) ?_
      refine cr_iload_n (pc := 188) C dX4_doesSync_188 rfl ?_
      refine cr_imul_n (pc := 189) C dX4_doesSync_189 ?_
      refine cr_iload (pc := 190) C dX4_doesSync_190 rfl ?_
      refine cr_iadd_n (pc := 192) C dX4_doesSync_192 ?_
      refine cr_iload (pc := 193) C dX4_doesSync_193 rfl ?_
      refine cr_aload_n (pc := 195) C dX4_doesSync_195 rfl ?_
      refine cr_getr (pc := 196) (c := 4) (k := 0) C (by first | rfl | assumption | (simp [cg_ok]; omega)) rfl (by decide) rfl inX4_doesSync_X4 flX4_doesSync_7 dX4_doesSync_196 ?_
      refine cr_iconst (pc := 199) (v := nI 3) C dX4_doesSync_199 (by decide) ?_
      refine cr_iload_n (pc := 200) C dX4_doesSync_200 rfl ?_
      refine cr_imul_n (pc := 201) C dX4_doesSync_201 ?_
      refine cr_iload (pc := 202) C dX4_doesSync_202 rfl ?_
      refine cr_iadd_n (pc := 204) C dX4_doesSync_204 ?_
      refine cr_iaload (pc := 205) C rfl (by first | rfl | assumption | (simp [cg_ok]; omega)) (by omega) (by first | decide | omega) dX4_doesSync_205 ?_
      rw [cg_sb_s]
      refine cr_icmp_le_f (pc := 206) (tgt := 214) C dX4_doesSync_206 (by decide) hle ?_
      refine cr_iload (pc := 209) C dX4_doesSync_209 rfl ?_
      refine cr_goto (pc := 211) (tgt := 225) C dX4_doesSync_211 (by decide) ?_
      refine cr_top e1 ?_
      refine cr_iastore (pc := 225) C rfl (by first | rfl | assumption | (simp [cg_ok]; omega)) (by omega) (by first | decide | omega) dX4_doesSync_225 ?_
      rw [cg_up_sb]
      refine cr_iinc4 (pc := 226) (v := nI 2) C dX4_doesSync_226 (by decide) (by decide) rfl ?_
      refine cr_goto (pc := 229) (tgt := 164) C dX4_doesSync_229 (by decide) ?_
      exact hK2 _ _ _ ha
  have hK0 : ∀ (A : Nat → Int32) (z5 z6 : Option cg_V), (cg_m1 (3 * f) (3 * t) 2 (cg_m1 (3 * f) (3 * t) 1 (cg_m1 (3 * f) (3 * t) 0 A))) = cg_sp P f t n → cg_W E (cg_sb M 20 A) 164 [some (.inr (.inr (4, 0, 0, 0))), some (.inl (nI f)), some (.inl (nI t)), some (.inl (nI (cg_sy P f t n).1)), some (.inl (nI 0)), z5, z6] [] := by
    intro A z5 z6 ha
    by_cases hle : A (3 * f + 0) ≤ A (3 * t + 0)
    · have e1 : A (3 * t + 0) = cg_mx (A (3 * t + 0)) (A (3 * f + 0)) := cg_mx_le hle
      refine cr_iload (pc := 164) C dX4_doesSync_164 rfl ?_
      refine cr_iconst (pc := 166) (v := nI 3) C dX4_doesSync_166 (by decide) ?_
      refine cr_icmp_ge_f (pc := 167) (tgt := 232) C dX4_doesSync_167 (by decide) (by decide) ?_
      refine cr_aload_n (pc := 170) C dX4_doesSync_170 rfl ?_
      refine cr_getr (pc := 171) (c := 4) (k := 0) C (by first | rfl | assumption | (simp [cg_ok]; omega)) rfl (by decide) rfl inX4_doesSync_X4 flX4_doesSync_7 dX4_doesSync_171 ?_
      refine cr_iconst (pc := 174) (v := nI 3) C dX4_doesSync_174 (by decide) ?_
      refine cr_iload_n (pc := 175) C dX4_doesSync_175 rfl ?_
      refine cr_imul_n (pc := 176) C dX4_doesSync_176 ?_
      refine cr_iload (pc := 177) C dX4_doesSync_177 rfl ?_
      refine cr_iadd_n (pc := 179) C dX4_doesSync_179 ?_
      refine cr_iaload (pc := 180) C rfl (by first | rfl | assumption | (simp [cg_ok]; omega)) (by omega) (by first | decide | omega) dX4_doesSync_180 ?_
      rw [cg_sb_s]
      refine cr_istore5 (pc := 181) C dX4_doesSync_181 (by decide) rfl ?_
      refine cr_aload_n (pc := 183) C dX4_doesSync_183 rfl ?_
      refine cr_getr (pc := 184) (c := 4) (k := 0) C (by first | rfl | assumption | (simp [cg_ok]; omega)) rfl (by decide) rfl inX4_doesSync_X4 flX4_doesSync_7 dX4_doesSync_184 ?_
      refine cr_iconst (pc := 187) (v := nI 3) C dX4_doesSync_187 (by decide) ?_
      refine cr_iload_n (pc := 188) C dX4_doesSync_188 rfl ?_
      refine cr_imul_n (pc := 189) C dX4_doesSync_189 ?_
      refine cr_iload (pc := 190) C dX4_doesSync_190 rfl ?_
      refine cr_iadd_n (pc := 192) C dX4_doesSync_192 ?_
      refine cr_iload (pc := 193) C dX4_doesSync_193 rfl ?_
      refine cr_aload_n (pc := 195) C dX4_doesSync_195 rfl ?_
      refine cr_getr (pc := 196) (c := 4) (k := 0) C (by first | rfl | assumption | (simp [cg_ok]; omega)) rfl (by decide) rfl inX4_doesSync_X4 flX4_doesSync_7 dX4_doesSync_196 ?_
      refine cr_iconst (pc := 199) (v := nI 3) C dX4_doesSync_199 (by decide) ?_
      refine cr_iload_n (pc := 200) C dX4_doesSync_200 rfl ?_
      refine cr_imul_n (pc := 201) C dX4_doesSync_201 ?_
      refine cr_iload (pc := 202) C dX4_doesSync_202 rfl ?_
      refine cr_iadd_n (pc := 204) C dX4_doesSync_204 ?_
      refine cr_iaload (pc := 205) C rfl (by first | rfl | assumption | (simp [cg_ok]; omega)) (by omega) (by first | decide | omega) dX4_doesSync_205 ?_
      rw [cg_sb_s]
      refine cr_icmp_le_t (pc := 206) (tgt := 214) C dX4_doesSync_206 (by decide) hle ?_
      refine cr_aload_n (pc := 214) C dX4_doesSync_214 rfl ?_
      refine cr_getr (pc := 215) (c := 4) (k := 0) C (by first | rfl | assumption | (simp [cg_ok]; omega)) rfl (by decide) rfl inX4_doesSync_X4 flX4_doesSync_7 dX4_doesSync_215 ?_
      refine cr_iconst (pc := 218) (v := nI 3) C dX4_doesSync_218 (by decide) ?_
      refine cr_iload_n (pc := 219) C dX4_doesSync_219 rfl ?_
      refine cr_imul_n (pc := 220) C dX4_doesSync_220 ?_
      refine cr_iload (pc := 221) C dX4_doesSync_221 rfl ?_
      refine cr_iadd_n (pc := 223) C dX4_doesSync_223 ?_
      refine cr_iaload (pc := 224) C rfl (by first | rfl | assumption | (simp [cg_ok]; omega)) (by omega) (by first | decide | omega) dX4_doesSync_224 ?_
      rw [cg_sb_s]
      refine cr_top e1 ?_
      refine cr_iastore (pc := 225) C rfl (by first | rfl | assumption | (simp [cg_ok]; omega)) (by omega) (by first | decide | omega) dX4_doesSync_225 ?_
      rw [cg_up_sb]
      refine cr_iinc4 (pc := 226) (v := nI 1) C dX4_doesSync_226 (by decide) (by decide) rfl ?_
      refine cr_goto (pc := 229) (tgt := 164) C dX4_doesSync_229 (by decide) ?_
      exact hK1 _ _ _ ha
    · have e1 : A (3 * f + 0) = cg_mx (A (3 * t + 0)) (A (3 * f + 0)) := cg_mx_gt hle
      refine cr_iload (pc := 164) C dX4_doesSync_164 rfl ?_
      refine cr_iconst (pc := 166) (v := nI 3) C dX4_doesSync_166 (by decide) ?_
      refine cr_icmp_ge_f (pc := 167) (tgt := 232) C dX4_doesSync_167 (by decide) (by decide) ?_
      refine cr_aload_n (pc := 170) C dX4_doesSync_170 rfl ?_
      refine cr_getr (pc := 171) (c := 4) (k := 0) C (by first | rfl | assumption | (simp [cg_ok]; omega)) rfl (by decide) rfl inX4_doesSync_X4 flX4_doesSync_7 dX4_doesSync_171 ?_
      refine cr_iconst (pc := 174) (v := nI 3) C dX4_doesSync_174 (by decide) ?_
      refine cr_iload_n (pc := 175) C dX4_doesSync_175 rfl ?_
      refine cr_imul_n (pc := 176) C dX4_doesSync_176 ?_
      refine cr_iload (pc := 177) C dX4_doesSync_177 rfl ?_
      refine cr_iadd_n (pc := 179) C dX4_doesSync_179 ?_
      refine cr_iaload (pc := 180) C rfl (by first | rfl | assumption | (simp [cg_ok]; omega)) (by omega) (by first | decide | omega) dX4_doesSync_180 ?_
      rw [cg_sb_s]
      refine cr_istore5 (pc := 181) C dX4_doesSync_181 (by decide) rfl ?_
      refine cr_aload_n (pc := 183) C dX4_doesSync_183 rfl ?_
      refine cr_getr (pc := 184) (c := 4) (k := 0) C (by first | rfl | assumption | (simp [cg_ok]; omega)) rfl (by decide) rfl inX4_doesSync_X4 flX4_doesSync_7 dX4_doesSync_184 ?_
      refine cr_iconst (pc := 187) (v := nI 3) C dX4_doesSync_187 (by decide) ?_
      refine cr_iload_n (pc := 188) C dX4_doesSync_188 rfl ?_
      refine cr_imul_n (pc := 189) C dX4_doesSync_189 ?_
      refine cr_iload (pc := 190) C dX4_doesSync_190 rfl ?_
      refine cr_iadd_n (pc := 192) C dX4_doesSync_192 ?_
      refine cr_iload (pc := 193) C dX4_doesSync_193 rfl ?_
      refine cr_aload_n (pc := 195) C dX4_doesSync_195 rfl ?_
      refine cr_getr (pc := 196) (c := 4) (k := 0) C (by first | rfl | assumption | (simp [cg_ok]; omega)) rfl (by decide) rfl inX4_doesSync_X4 flX4_doesSync_7 dX4_doesSync_196 ?_
      refine cr_iconst (pc := 199) (v := nI 3) C dX4_doesSync_199 (by decide) ?_
      refine cr_iload_n (pc := 200) C dX4_doesSync_200 rfl ?_
      refine cr_imul_n (pc := 201) C dX4_doesSync_201 ?_
      refine cr_iload (pc := 202) C dX4_doesSync_202 rfl ?_
      refine cr_iadd_n (pc := 204) C dX4_doesSync_204 ?_
      refine cr_iaload (pc := 205) C rfl (by first | rfl | assumption | (simp [cg_ok]; omega)) (by omega) (by first | decide | omega) dX4_doesSync_205 ?_
      rw [cg_sb_s]
      refine cr_icmp_le_f (pc := 206) (tgt := 214) C dX4_doesSync_206 (by decide) hle ?_
      refine cr_iload (pc := 209) C dX4_doesSync_209 rfl ?_
      refine cr_goto (pc := 211) (tgt := 225) C dX4_doesSync_211 (by decide) ?_
      refine cr_top e1 ?_
      refine cr_iastore (pc := 225) C rfl (by first | rfl | assumption | (simp [cg_ok]; omega)) (by omega) (by first | decide | omega) dX4_doesSync_225 ?_
      rw [cg_up_sb]
      refine cr_iinc4 (pc := 226) (v := nI 1) C dX4_doesSync_226 (by decide) (by decide) rfl ?_
      refine cr_goto (pc := 229) (tgt := 164) C dX4_doesSync_229 (by decide) ?_
      exact hK1 _ _ _ ha
  have loop : ∀ (m w : Nat) (z5 z6 : Option cg_V), w + m = n → cg_W E (cg_sb M 20 (upd P (9 + t) (cg_sy P f t w).2)) 27 [some (.inr (.inr (4, 0, 0, 0))), some (.inl (nI f)), some (.inl (nI t)), some (.inl (nI (cg_sy P f t w).1)), some (.inl (nI w)), z5, z6] [] := by
    intro m
    induction m with
    | zero =>
      intro w z5 z6 hw
      have hwn : w = n := by omega
      subst hwn
      refine cr_iload (pc := 27) C dX4_doesSync_27 rfl ?_
      refine cr_aload_n (pc := 29) C dX4_doesSync_29 rfl ?_
      refine cr_getr (pc := 30) (c := 4) (k := 0) C (by first | rfl | assumption | (simp [cg_ok]; omega)) rfl (by decide) rfl inX4_doesSync_X4 flX4_doesSync_7 dX4_doesSync_30 ?_
      refine cr_bipush (pc := 33) (v := nI 12) C dX4_doesSync_33 (by decide) ?_
      refine cr_iaload (pc := 35) C rfl (by first | rfl | assumption | (simp [cg_ok]; omega)) (by decide) (by first | decide | omega) dX4_doesSync_35 ?_
      rw [cg_sb_s]
      rw [cg_un (by omega), hI.2.1]
      refine cr_icmp_ge_t (pc := 36) (tgt := 161) C dX4_doesSync_36 (by decide) (Int32.le_refl _) ?_
      refine cr_iconst (pc := 161) (v := nI 0) C dX4_doesSync_161 (by decide) ?_
      refine cr_istore4 (pc := 162) C dX4_doesSync_162 (by decide) rfl ?_
      exact hK0 _ _ _ rfl
    | succ m ih =>
      intro w z5 z6 hw
      have hlt : w < n := by omega
      have hn60 := hI.1
      obtain ⟨o, ho, ho2⟩ := hI.2.2 w hlt
      have hkq : ∀ r, cg_kn P r w = decide (P (14 + 5 * w) ≤ P (3 * r + o)) := fun r => by unfold cg_kn; rw [ho2, cg_clamp (by omega)]
      obtain ⟨sc, hsc⟩ : ∃ sc, sc = (cg_sy P f t w).2 := ⟨_, rfl⟩
      cases hkf : cg_kn P f w
      · have hdf : ¬ P (14 + 5 * w) ≤ P (3 * f + o) := by rw [hkq] at hkf; exact of_decide_eq_false hkf
        refine cr_iload (pc := 27) C dX4_doesSync_27 rfl ?_
        refine cr_aload_n (pc := 29) C dX4_doesSync_29 rfl ?_
        refine cr_getr (pc := 30) (c := 4) (k := 0) C (by first | rfl | assumption | (simp [cg_ok]; omega)) rfl (by decide) rfl inX4_doesSync_X4 flX4_doesSync_7 dX4_doesSync_30 ?_
        refine cr_bipush (pc := 33) (v := nI 12) C dX4_doesSync_33 (by decide) ?_
        refine cr_iaload (pc := 35) C rfl (by first | rfl | assumption | (simp [cg_ok]; omega)) (by decide) (by first | decide | omega) dX4_doesSync_35 ?_
        rw [cg_sb_s]
        rw [cg_un (by omega)]
        rw [hI.2.1]
        refine cr_icmp_ge_f (pc := 36) (tgt := 161) C dX4_doesSync_36 (by decide) (nI_ge hlt (by omega)) ?_
        refine cr_bipush (pc := 39) (v := nI 13) C dX4_doesSync_39 (by decide) ?_
        refine cr_iconst (pc := 41) (v := nI 5) C dX4_doesSync_41 (by decide) ?_
        refine cr_iload (pc := 42) C dX4_doesSync_42 rfl ?_
        refine cr_imul_n (pc := 44) C dX4_doesSync_44 ?_
        refine cr_iadd_n (pc := 45) C dX4_doesSync_45 ?_
        refine cr_istore5 (pc := 46) C dX4_doesSync_46 (by decide) rfl ?_
        refine cr_aload_n (pc := 48) C dX4_doesSync_48 rfl ?_
        refine cr_getr (pc := 49) (c := 4) (k := 0) C (by first | rfl | assumption | (simp [cg_ok]; omega)) rfl (by decide) rfl inX4_doesSync_X4 flX4_doesSync_7 dX4_doesSync_49 ?_
        refine cr_iload (pc := 52) C dX4_doesSync_52 rfl ?_
        refine cr_iconst (pc := 54) (v := nI 1) C dX4_doesSync_54 (by decide) ?_
        refine cr_iadd_n (pc := 55) C dX4_doesSync_55 ?_
        rw [show 13 + 5 * w + 1 = 14 + 5 * w by omega]
        refine cr_iaload (pc := 56) C rfl (by first | rfl | assumption | (simp [cg_ok]; omega)) (by omega) (by first | decide | omega) dX4_doesSync_56 ?_
        rw [cg_sb_s]
        rw [cg_un (by omega)]
        refine cr_istore6 (pc := 57) C dX4_doesSync_57 (by decide) rfl ?_
        refine cr_iload (pc := 59) C dX4_doesSync_59 rfl ?_
        refine cr_aload_n (pc := 61) C dX4_doesSync_61 rfl ?_
        refine cr_getr (pc := 62) (c := 4) (k := 0) C (by first | rfl | assumption | (simp [cg_ok]; omega)) rfl (by decide) rfl inX4_doesSync_X4 flX4_doesSync_7 dX4_doesSync_62 ?_
        refine cr_iconst (pc := 65) (v := nI 3) C dX4_doesSync_65 (by decide) ?_
        refine cr_iload_n (pc := 66) C dX4_doesSync_66 rfl ?_
        refine cr_imul_n (pc := 67) C dX4_doesSync_67 ?_
        refine cr_aload_n (pc := 68) C dX4_doesSync_68 rfl ?_
        refine cr_getr (pc := 69) (c := 4) (k := 0) C (by first | rfl | assumption | (simp [cg_ok]; omega)) rfl (by decide) rfl inX4_doesSync_X4 flX4_doesSync_7 dX4_doesSync_69 ?_
        refine cr_iload (pc := 72) C dX4_doesSync_72 rfl ?_
        refine cr_iaload (pc := 74) C rfl (by first | rfl | assumption | (simp [cg_ok]; omega)) (by omega) (by first | decide | omega) dX4_doesSync_74 ?_
        rw [cg_sb_s]
        rw [cg_un (by omega)]
        rw [ho2]
        refine cr_iadd_n (pc := 75) C dX4_doesSync_75 ?_
        refine cr_iaload (pc := 76) C rfl (by first | rfl | assumption | (simp [cg_ok]; omega)) (by omega) (by first | decide | omega) dX4_doesSync_76 ?_
        rw [cg_sb_s]
        rw [cg_un (by omega)]
        refine cr_icmp_gt_t (pc := 77) (tgt := 155) C dX4_doesSync_77 (by decide) (Int32.not_le.mp hdf) ?_
        refine cr_iinc4 (pc := 155) C dX4_doesSync_155 (cg_inc1 _) (by decide) rfl ?_
        refine cr_goto (pc := 158) (tgt := 27) C dX4_doesSync_158 (by decide) ?_
        have e1 : cg_sy P f t (w + 1) = cg_sy P f t w := by simp [cg_sy, hkf]
        have e2 := ih (w + 1) (some (.inl (nI (13 + 5 * w)))) (some (.inl (P (14 + 5 * w)))) (by omega)
        rw [e1] at e2
        exact e2
      · have hdf : P (14 + 5 * w) ≤ P (3 * f + o) := by rw [hkq] at hkf; exact of_decide_eq_true hkf
        cases hkt : cg_kn P t w
        · have hdt : ¬ P (14 + 5 * w) ≤ P (3 * t + o) := by rw [hkq] at hkt; exact of_decide_eq_false hkt
          by_cases hle : P (17 + 5 * w) ≤ (cg_sy P f t w).2
          · have e0 : (cg_sy P f t w).2 = cg_mx (cg_sy P f t w).2 (P (17 + 5 * w)) := cg_mx_le hle
            refine cr_iload (pc := 27) C dX4_doesSync_27 rfl ?_
            refine cr_aload_n (pc := 29) C dX4_doesSync_29 rfl ?_
            refine cr_getr (pc := 30) (c := 4) (k := 0) C (by first | rfl | assumption | (simp [cg_ok]; omega)) rfl (by decide) rfl inX4_doesSync_X4 flX4_doesSync_7 dX4_doesSync_30 ?_
            refine cr_bipush (pc := 33) (v := nI 12) C dX4_doesSync_33 (by decide) ?_
            refine cr_iaload (pc := 35) C rfl (by first | rfl | assumption | (simp [cg_ok]; omega)) (by decide) (by first | decide | omega) dX4_doesSync_35 ?_
            rw [cg_sb_s]
            rw [cg_un (by omega)]
            rw [hI.2.1]
            refine cr_icmp_ge_f (pc := 36) (tgt := 161) C dX4_doesSync_36 (by decide) (nI_ge hlt (by omega)) ?_
            refine cr_bipush (pc := 39) (v := nI 13) C dX4_doesSync_39 (by decide) ?_
            refine cr_iconst (pc := 41) (v := nI 5) C dX4_doesSync_41 (by decide) ?_
            refine cr_iload (pc := 42) C dX4_doesSync_42 rfl ?_
            refine cr_imul_n (pc := 44) C dX4_doesSync_44 ?_
            refine cr_iadd_n (pc := 45) C dX4_doesSync_45 ?_
            refine cr_istore5 (pc := 46) C dX4_doesSync_46 (by decide) rfl ?_
            refine cr_aload_n (pc := 48) C dX4_doesSync_48 rfl ?_
            refine cr_getr (pc := 49) (c := 4) (k := 0) C (by first | rfl | assumption | (simp [cg_ok]; omega)) rfl (by decide) rfl inX4_doesSync_X4 flX4_doesSync_7 dX4_doesSync_49 ?_
            refine cr_iload (pc := 52) C dX4_doesSync_52 rfl ?_
            refine cr_iconst (pc := 54) (v := nI 1) C dX4_doesSync_54 (by decide) ?_
            refine cr_iadd_n (pc := 55) C dX4_doesSync_55 ?_
            rw [show 13 + 5 * w + 1 = 14 + 5 * w by omega]
            refine cr_iaload (pc := 56) C rfl (by first | rfl | assumption | (simp [cg_ok]; omega)) (by omega) (by first | decide | omega) dX4_doesSync_56 ?_
            rw [cg_sb_s]
            rw [cg_un (by omega)]
            refine cr_istore6 (pc := 57) C dX4_doesSync_57 (by decide) rfl ?_
            refine cr_iload (pc := 59) C dX4_doesSync_59 rfl ?_
            refine cr_aload_n (pc := 61) C dX4_doesSync_61 rfl ?_
            refine cr_getr (pc := 62) (c := 4) (k := 0) C (by first | rfl | assumption | (simp [cg_ok]; omega)) rfl (by decide) rfl inX4_doesSync_X4 flX4_doesSync_7 dX4_doesSync_62 ?_
            refine cr_iconst (pc := 65) (v := nI 3) C dX4_doesSync_65 (by decide) ?_
            refine cr_iload_n (pc := 66) C dX4_doesSync_66 rfl ?_
            refine cr_imul_n (pc := 67) C dX4_doesSync_67 ?_
            refine cr_aload_n (pc := 68) C dX4_doesSync_68 rfl ?_
            refine cr_getr (pc := 69) (c := 4) (k := 0) C (by first | rfl | assumption | (simp [cg_ok]; omega)) rfl (by decide) rfl inX4_doesSync_X4 flX4_doesSync_7 dX4_doesSync_69 ?_
            refine cr_iload (pc := 72) C dX4_doesSync_72 rfl ?_
            refine cr_iaload (pc := 74) C rfl (by first | rfl | assumption | (simp [cg_ok]; omega)) (by omega) (by first | decide | omega) dX4_doesSync_74 ?_
            rw [cg_sb_s]
            rw [cg_un (by omega)]
            rw [ho2]
            refine cr_iadd_n (pc := 75) C dX4_doesSync_75 ?_
            refine cr_iaload (pc := 76) C rfl (by first | rfl | assumption | (simp [cg_ok]; omega)) (by omega) (by first | decide | omega) dX4_doesSync_76 ?_
            rw [cg_sb_s]
            rw [cg_un (by omega)]
            refine cr_icmp_gt_f (pc := 77) (tgt := 155) C dX4_doesSync_77 (by decide) (Int32.not_lt.mpr hdf) ?_
            refine cr_iload (pc := 80) C dX4_doesSync_80 rfl ?_
            refine cr_aload_n (pc := 82) C dX4_doesSync_82 rfl ?_
            refine cr_getr (pc := 83) (c := 4) (k := 0) C (by first | rfl | assumption | (simp [cg_ok]; omega)) rfl (by decide) rfl inX4_doesSync_X4 flX4_doesSync_7 dX4_doesSync_83 ?_
            refine cr_iconst (pc := 86) (v := nI 3) C dX4_doesSync_86 (by decide) ?_
            refine cr_iload_n (pc := 87) C dX4_doesSync_87 rfl ?_
            refine cr_imul_n (pc := 88) C dX4_doesSync_88 ?_
            refine cr_aload_n (pc := 89) C dX4_doesSync_89 rfl ?_
            refine cr_getr (pc := 90) (c := 4) (k := 0) C (by first | rfl | assumption | (simp [cg_ok]; omega)) rfl (by decide) rfl inX4_doesSync_X4 flX4_doesSync_7 dX4_doesSync_90 ?_
            refine cr_iload (pc := 93) C dX4_doesSync_93 rfl ?_
            refine cr_iaload (pc := 95) C rfl (by first | rfl | assumption | (simp [cg_ok]; omega)) (by omega) (by first | decide | omega) dX4_doesSync_95 ?_
            rw [cg_sb_s]
            rw [cg_un (by omega)]
            rw [ho2]
            refine cr_iadd_n (pc := 96) C dX4_doesSync_96 ?_
            refine cr_iaload (pc := 97) C rfl (by first | rfl | assumption | (simp [cg_ok]; omega)) (by omega) (by first | decide | omega) dX4_doesSync_97 ?_
            rw [cg_sb_s]
            rw [cg_un (by omega)]
            refine cr_icmp_le_f (pc := 98) (tgt := 155) C dX4_doesSync_98 (by decide) hdt ?_
            refine cr_iinc3 (pc := 101) C dX4_doesSync_101 (cg_inc1 _) (by decide) rfl ?_
            refine cr_aload_n (pc := 104) C dX4_doesSync_104 rfl ?_
            refine cr_getr (pc := 105) (c := 4) (k := 0) C (by first | rfl | assumption | (simp [cg_ok]; omega)) rfl (by decide) rfl inX4_doesSync_X4 flX4_doesSync_7 dX4_doesSync_105 ?_
            refine cr_bipush (pc := 108) (v := nI 9) C dX4_doesSync_108 (by decide) ?_
            refine cr_iload_n (pc := 110) C dX4_doesSync_110 rfl ?_
            refine cr_iadd_n (pc := 111) C dX4_doesSync_111 ?_
            refine cr_aload_n (pc := 112) C dX4_doesSync_112 rfl ?_
            refine cr_getr (pc := 113) (c := 4) (k := 0) C (by first | rfl | assumption | (simp [cg_ok]; omega)) rfl (by decide) rfl inX4_doesSync_X4 flX4_doesSync_7 dX4_doesSync_113 ?_
            refine cr_iload (pc := 116) C dX4_doesSync_116 rfl ?_
            refine cr_iconst (pc := 118) (v := nI 4) C dX4_doesSync_118 (by decide) ?_
            refine cr_iadd_n (pc := 119) C dX4_doesSync_119 ?_
            rw [show 13 + 5 * w + 4 = 17 + 5 * w by omega]
            refine cr_iaload (pc := 120) C rfl (by first | rfl | assumption | (simp [cg_ok]; omega)) (by omega) (by first | decide | omega) dX4_doesSync_120 ?_
            rw [cg_sb_s]
            rw [cg_un (by omega)]
            refine cr_aload_n (pc := 121) C dX4_doesSync_121 rfl ?_
            refine cr_getr (pc := 122) (c := 4) (k := 0) C (by first | rfl | assumption | (simp [cg_ok]; omega)) rfl (by decide) rfl inX4_doesSync_X4 flX4_doesSync_7 dX4_doesSync_122 ?_
            refine cr_bipush (pc := 125) (v := nI 9) C dX4_doesSync_125 (by decide) ?_
            refine cr_iload_n (pc := 127) C dX4_doesSync_127 rfl ?_
            refine cr_iadd_n (pc := 128) C dX4_doesSync_128 ?_
            refine cr_iaload (pc := 129) C rfl (by first | rfl | assumption | (simp [cg_ok]; omega)) (by omega) (by first | decide | omega) dX4_doesSync_129 ?_
            rw [cg_sb_s]
            rw [cg_us]
            refine cr_icmp_le_t (pc := 130) (tgt := 145) C dX4_doesSync_130 (by decide) hle ?_
            refine cr_aload_n (pc := 145) C dX4_doesSync_145 rfl ?_
            refine cr_getr (pc := 146) (c := 4) (k := 0) C (by first | rfl | assumption | (simp [cg_ok]; omega)) rfl (by decide) rfl inX4_doesSync_X4 flX4_doesSync_7 dX4_doesSync_146 ?_
            refine cr_bipush (pc := 149) (v := nI 9) C dX4_doesSync_149 (by decide) ?_
            refine cr_iload_n (pc := 151) C dX4_doesSync_151 rfl ?_
            refine cr_iadd_n (pc := 152) C dX4_doesSync_152 ?_
            refine cr_iaload (pc := 153) C rfl (by first | rfl | assumption | (simp [cg_ok]; omega)) (by omega) (by first | decide | omega) dX4_doesSync_153 ?_
            rw [cg_sb_s]
            rw [cg_us]
            refine cr_top e0 ?_
            refine cr_iastore (pc := 154) C rfl (by first | rfl | assumption | (simp [cg_ok]; omega)) (by omega) (by first | decide | omega) dX4_doesSync_154 ?_
            rw [cg_up_sb]
            rw [cg_uu]
            refine cr_iinc4 (pc := 155) C dX4_doesSync_155 (cg_inc1 _) (by decide) rfl ?_
            refine cr_goto (pc := 158) (tgt := 27) C dX4_doesSync_158 (by decide) ?_
            have e1 : cg_sy P f t (w + 1) = ((cg_sy P f t w).1 + 1, cg_mx (cg_sy P f t w).2 (P (17 + 5 * w))) := by simp [cg_sy, hkf, hkt]
            have e2 := ih (w + 1) (some (.inl (nI (13 + 5 * w)))) (some (.inl (P (14 + 5 * w)))) (by omega)
            rw [e1] at e2
            exact e2
          · have e0 : P (17 + 5 * w) = cg_mx (cg_sy P f t w).2 (P (17 + 5 * w)) := cg_mx_gt hle
            refine cr_iload (pc := 27) C dX4_doesSync_27 rfl ?_
            refine cr_aload_n (pc := 29) C dX4_doesSync_29 rfl ?_
            refine cr_getr (pc := 30) (c := 4) (k := 0) C (by first | rfl | assumption | (simp [cg_ok]; omega)) rfl (by decide) rfl inX4_doesSync_X4 flX4_doesSync_7 dX4_doesSync_30 ?_
            refine cr_bipush (pc := 33) (v := nI 12) C dX4_doesSync_33 (by decide) ?_
            refine cr_iaload (pc := 35) C rfl (by first | rfl | assumption | (simp [cg_ok]; omega)) (by decide) (by first | decide | omega) dX4_doesSync_35 ?_
            rw [cg_sb_s]
            rw [cg_un (by omega)]
            rw [hI.2.1]
            refine cr_icmp_ge_f (pc := 36) (tgt := 161) C dX4_doesSync_36 (by decide) (nI_ge hlt (by omega)) ?_
            refine cr_bipush (pc := 39) (v := nI 13) C dX4_doesSync_39 (by decide) ?_
            refine cr_iconst (pc := 41) (v := nI 5) C dX4_doesSync_41 (by decide) ?_
            refine cr_iload (pc := 42) C dX4_doesSync_42 rfl ?_
            refine cr_imul_n (pc := 44) C dX4_doesSync_44 ?_
            refine cr_iadd_n (pc := 45) C dX4_doesSync_45 ?_
            refine cr_istore5 (pc := 46) C dX4_doesSync_46 (by decide) rfl ?_
            refine cr_aload_n (pc := 48) C dX4_doesSync_48 rfl ?_
            refine cr_getr (pc := 49) (c := 4) (k := 0) C (by first | rfl | assumption | (simp [cg_ok]; omega)) rfl (by decide) rfl inX4_doesSync_X4 flX4_doesSync_7 dX4_doesSync_49 ?_
            refine cr_iload (pc := 52) C dX4_doesSync_52 rfl ?_
            refine cr_iconst (pc := 54) (v := nI 1) C dX4_doesSync_54 (by decide) ?_
            refine cr_iadd_n (pc := 55) C dX4_doesSync_55 ?_
            rw [show 13 + 5 * w + 1 = 14 + 5 * w by omega]
            refine cr_iaload (pc := 56) C rfl (by first | rfl | assumption | (simp [cg_ok]; omega)) (by omega) (by first | decide | omega) dX4_doesSync_56 ?_
            rw [cg_sb_s]
            rw [cg_un (by omega)]
            refine cr_istore6 (pc := 57) C dX4_doesSync_57 (by decide) rfl ?_
            refine cr_iload (pc := 59) C dX4_doesSync_59 rfl ?_
            refine cr_aload_n (pc := 61) C dX4_doesSync_61 rfl ?_
            refine cr_getr (pc := 62) (c := 4) (k := 0) C (by first | rfl | assumption | (simp [cg_ok]; omega)) rfl (by decide) rfl inX4_doesSync_X4 flX4_doesSync_7 dX4_doesSync_62 ?_
            refine cr_iconst (pc := 65) (v := nI 3) C dX4_doesSync_65 (by decide) ?_
            refine cr_iload_n (pc := 66) C dX4_doesSync_66 rfl ?_
            refine cr_imul_n (pc := 67) C dX4_doesSync_67 ?_
            refine cr_aload_n (pc := 68) C dX4_doesSync_68 rfl ?_
            refine cr_getr (pc := 69) (c := 4) (k := 0) C (by first | rfl | assumption | (simp [cg_ok]; omega)) rfl (by decide) rfl inX4_doesSync_X4 flX4_doesSync_7 dX4_doesSync_69 ?_
            refine cr_iload (pc := 72) C dX4_doesSync_72 rfl ?_
            refine cr_iaload (pc := 74) C rfl (by first | rfl | assumption | (simp [cg_ok]; omega)) (by omega) (by first | decide | omega) dX4_doesSync_74 ?_
            rw [cg_sb_s]
            rw [cg_un (by omega)]
            rw [ho2]
            refine cr_iadd_n (pc := 75) C dX4_doesSync_75 ?_
            refine cr_iaload (pc := 76) C rfl (by first | rfl | assumption | (simp [cg_ok]; omega)) (by omega) (by first | decide | omega) dX4_doesSync_76 ?_
            rw [cg_sb_s]
            rw [cg_un (by omega)]
            refine cr_icmp_gt_f (pc := 77) (tgt := 155) C dX4_doesSync_77 (by decide) (Int32.not_lt.mpr hdf) ?_
            refine cr_iload (pc := 80) C dX4_doesSync_80 rfl ?_
            refine cr_aload_n (pc := 82) C dX4_doesSync_82 rfl ?_
            refine cr_getr (pc := 83) (c := 4) (k := 0) C (by first | rfl | assumption | (simp [cg_ok]; omega)) rfl (by decide) rfl inX4_doesSync_X4 flX4_doesSync_7 dX4_doesSync_83 ?_
            refine cr_iconst (pc := 86) (v := nI 3) C dX4_doesSync_86 (by decide) ?_
            refine cr_iload_n (pc := 87) C dX4_doesSync_87 rfl ?_
            refine cr_imul_n (pc := 88) C dX4_doesSync_88 ?_
            refine cr_aload_n (pc := 89) C dX4_doesSync_89 rfl ?_
            refine cr_getr (pc := 90) (c := 4) (k := 0) C (by first | rfl | assumption | (simp [cg_ok]; omega)) rfl (by decide) rfl inX4_doesSync_X4 flX4_doesSync_7 dX4_doesSync_90 ?_
            refine cr_iload (pc := 93) C dX4_doesSync_93 rfl ?_
            refine cr_iaload (pc := 95) C rfl (by first | rfl | assumption | (simp [cg_ok]; omega)) (by omega) (by first | decide | omega) dX4_doesSync_95 ?_
            rw [cg_sb_s]
            rw [cg_un (by omega)]
            rw [ho2]
            refine cr_iadd_n (pc := 96) C dX4_doesSync_96 ?_
            refine cr_iaload (pc := 97) C rfl (by first | rfl | assumption | (simp [cg_ok]; omega)) (by omega) (by first | decide | omega) dX4_doesSync_97 ?_
            rw [cg_sb_s]
            rw [cg_un (by omega)]
            refine cr_icmp_le_f (pc := 98) (tgt := 155) C dX4_doesSync_98 (by decide) hdt ?_
            refine cr_iinc3 (pc := 101) C dX4_doesSync_101 (cg_inc1 _) (by decide) rfl ?_
            refine cr_aload_n (pc := 104) C dX4_doesSync_104 rfl ?_
            refine cr_getr (pc := 105) (c := 4) (k := 0) C (by first | rfl | assumption | (simp [cg_ok]; omega)) rfl (by decide) rfl inX4_doesSync_X4 flX4_doesSync_7 dX4_doesSync_105 ?_
            refine cr_bipush (pc := 108) (v := nI 9) C dX4_doesSync_108 (by decide) ?_
            refine cr_iload_n (pc := 110) C dX4_doesSync_110 rfl ?_
            refine cr_iadd_n (pc := 111) C dX4_doesSync_111 ?_
            refine cr_aload_n (pc := 112) C dX4_doesSync_112 rfl ?_
            refine cr_getr (pc := 113) (c := 4) (k := 0) C (by first | rfl | assumption | (simp [cg_ok]; omega)) rfl (by decide) rfl inX4_doesSync_X4 flX4_doesSync_7 dX4_doesSync_113 ?_
            refine cr_iload (pc := 116) C dX4_doesSync_116 rfl ?_
            refine cr_iconst (pc := 118) (v := nI 4) C dX4_doesSync_118 (by decide) ?_
            refine cr_iadd_n (pc := 119) C dX4_doesSync_119 ?_
            rw [show 13 + 5 * w + 4 = 17 + 5 * w by omega]
            refine cr_iaload (pc := 120) C rfl (by first | rfl | assumption | (simp [cg_ok]; omega)) (by omega) (by first | decide | omega) dX4_doesSync_120 ?_
            rw [cg_sb_s]
            rw [cg_un (by omega)]
            refine cr_aload_n (pc := 121) C dX4_doesSync_121 rfl ?_
            refine cr_getr (pc := 122) (c := 4) (k := 0) C (by first | rfl | assumption | (simp [cg_ok]; omega)) rfl (by decide) rfl inX4_doesSync_X4 flX4_doesSync_7 dX4_doesSync_122 ?_
            refine cr_bipush (pc := 125) (v := nI 9) C dX4_doesSync_125 (by decide) ?_
            refine cr_iload_n (pc := 127) C dX4_doesSync_127 rfl ?_
            refine cr_iadd_n (pc := 128) C dX4_doesSync_128 ?_
            refine cr_iaload (pc := 129) C rfl (by first | rfl | assumption | (simp [cg_ok]; omega)) (by omega) (by first | decide | omega) dX4_doesSync_129 ?_
            rw [cg_sb_s]
            rw [cg_us]
            refine cr_icmp_le_f (pc := 130) (tgt := 145) C dX4_doesSync_130 (by decide) hle ?_
            refine cr_aload_n (pc := 133) C dX4_doesSync_133 rfl ?_
            refine cr_getr (pc := 134) (c := 4) (k := 0) C (by first | rfl | assumption | (simp [cg_ok]; omega)) rfl (by decide) rfl inX4_doesSync_X4 flX4_doesSync_7 dX4_doesSync_134 ?_
            refine cr_iload (pc := 137) C dX4_doesSync_137 rfl ?_
            refine cr_iconst (pc := 139) (v := nI 4) C dX4_doesSync_139 (by decide) ?_
            refine cr_iadd_n (pc := 140) C dX4_doesSync_140 ?_
            try rw [show 13 + 5 * w + 4 = 17 + 5 * w by omega]
            refine cr_iaload (pc := 141) C rfl (by first | rfl | assumption | (simp [cg_ok]; omega)) (by omega) (by first | decide | omega) dX4_doesSync_141 ?_
            rw [cg_sb_s]
            rw [cg_un (by omega)]
            refine cr_goto (pc := 142) (tgt := 154) C dX4_doesSync_142 (by decide) ?_
            refine cr_top e0 ?_
            refine cr_iastore (pc := 154) C rfl (by first | rfl | assumption | (simp [cg_ok]; omega)) (by omega) (by first | decide | omega) dX4_doesSync_154 ?_
            rw [cg_up_sb]
            rw [cg_uu]
            refine cr_iinc4 (pc := 155) C dX4_doesSync_155 (cg_inc1 _) (by decide) rfl ?_
            refine cr_goto (pc := 158) (tgt := 27) C dX4_doesSync_158 (by decide) ?_
            have e1 : cg_sy P f t (w + 1) = ((cg_sy P f t w).1 + 1, cg_mx (cg_sy P f t w).2 (P (17 + 5 * w))) := by simp [cg_sy, hkf, hkt]
            have e2 := ih (w + 1) (some (.inl (nI (13 + 5 * w)))) (some (.inl (P (14 + 5 * w)))) (by omega)
            rw [e1] at e2
            exact e2
        · have hdt : P (14 + 5 * w) ≤ P (3 * t + o) := by rw [hkq] at hkt; exact of_decide_eq_true hkt
          refine cr_iload (pc := 27) C dX4_doesSync_27 rfl ?_
          refine cr_aload_n (pc := 29) C dX4_doesSync_29 rfl ?_
          refine cr_getr (pc := 30) (c := 4) (k := 0) C (by first | rfl | assumption | (simp [cg_ok]; omega)) rfl (by decide) rfl inX4_doesSync_X4 flX4_doesSync_7 dX4_doesSync_30 ?_
          refine cr_bipush (pc := 33) (v := nI 12) C dX4_doesSync_33 (by decide) ?_
          refine cr_iaload (pc := 35) C rfl (by first | rfl | assumption | (simp [cg_ok]; omega)) (by decide) (by first | decide | omega) dX4_doesSync_35 ?_
          rw [cg_sb_s]
          rw [cg_un (by omega)]
          rw [hI.2.1]
          refine cr_icmp_ge_f (pc := 36) (tgt := 161) C dX4_doesSync_36 (by decide) (nI_ge hlt (by omega)) ?_
          refine cr_bipush (pc := 39) (v := nI 13) C dX4_doesSync_39 (by decide) ?_
          refine cr_iconst (pc := 41) (v := nI 5) C dX4_doesSync_41 (by decide) ?_
          refine cr_iload (pc := 42) C dX4_doesSync_42 rfl ?_
          refine cr_imul_n (pc := 44) C dX4_doesSync_44 ?_
          refine cr_iadd_n (pc := 45) C dX4_doesSync_45 ?_
          refine cr_istore5 (pc := 46) C dX4_doesSync_46 (by decide) rfl ?_
          refine cr_aload_n (pc := 48) C dX4_doesSync_48 rfl ?_
          refine cr_getr (pc := 49) (c := 4) (k := 0) C (by first | rfl | assumption | (simp [cg_ok]; omega)) rfl (by decide) rfl inX4_doesSync_X4 flX4_doesSync_7 dX4_doesSync_49 ?_
          refine cr_iload (pc := 52) C dX4_doesSync_52 rfl ?_
          refine cr_iconst (pc := 54) (v := nI 1) C dX4_doesSync_54 (by decide) ?_
          refine cr_iadd_n (pc := 55) C dX4_doesSync_55 ?_
          rw [show 13 + 5 * w + 1 = 14 + 5 * w by omega]
          refine cr_iaload (pc := 56) C rfl (by first | rfl | assumption | (simp [cg_ok]; omega)) (by omega) (by first | decide | omega) dX4_doesSync_56 ?_
          rw [cg_sb_s]
          rw [cg_un (by omega)]
          refine cr_istore6 (pc := 57) C dX4_doesSync_57 (by decide) rfl ?_
          refine cr_iload (pc := 59) C dX4_doesSync_59 rfl ?_
          refine cr_aload_n (pc := 61) C dX4_doesSync_61 rfl ?_
          refine cr_getr (pc := 62) (c := 4) (k := 0) C (by first | rfl | assumption | (simp [cg_ok]; omega)) rfl (by decide) rfl inX4_doesSync_X4 flX4_doesSync_7 dX4_doesSync_62 ?_
          refine cr_iconst (pc := 65) (v := nI 3) C dX4_doesSync_65 (by decide) ?_
          refine cr_iload_n (pc := 66) C dX4_doesSync_66 rfl ?_
          refine cr_imul_n (pc := 67) C dX4_doesSync_67 ?_
          refine cr_aload_n (pc := 68) C dX4_doesSync_68 rfl ?_
          refine cr_getr (pc := 69) (c := 4) (k := 0) C (by first | rfl | assumption | (simp [cg_ok]; omega)) rfl (by decide) rfl inX4_doesSync_X4 flX4_doesSync_7 dX4_doesSync_69 ?_
          refine cr_iload (pc := 72) C dX4_doesSync_72 rfl ?_
          refine cr_iaload (pc := 74) C rfl (by first | rfl | assumption | (simp [cg_ok]; omega)) (by omega) (by first | decide | omega) dX4_doesSync_74 ?_
          rw [cg_sb_s]
          rw [cg_un (by omega)]
          rw [ho2]
          refine cr_iadd_n (pc := 75) C dX4_doesSync_75 ?_
          refine cr_iaload (pc := 76) C rfl (by first | rfl | assumption | (simp [cg_ok]; omega)) (by omega) (by first | decide | omega) dX4_doesSync_76 ?_
          rw [cg_sb_s]
          rw [cg_un (by omega)]
          refine cr_icmp_gt_f (pc := 77) (tgt := 155) C dX4_doesSync_77 (by decide) (Int32.not_lt.mpr hdf) ?_
          refine cr_iload (pc := 80) C dX4_doesSync_80 rfl ?_
          refine cr_aload_n (pc := 82) C dX4_doesSync_82 rfl ?_
          refine cr_getr (pc := 83) (c := 4) (k := 0) C (by first | rfl | assumption | (simp [cg_ok]; omega)) rfl (by decide) rfl inX4_doesSync_X4 flX4_doesSync_7 dX4_doesSync_83 ?_
          refine cr_iconst (pc := 86) (v := nI 3) C dX4_doesSync_86 (by decide) ?_
          refine cr_iload_n (pc := 87) C dX4_doesSync_87 rfl ?_
          refine cr_imul_n (pc := 88) C dX4_doesSync_88 ?_
          refine cr_aload_n (pc := 89) C dX4_doesSync_89 rfl ?_
          refine cr_getr (pc := 90) (c := 4) (k := 0) C (by first | rfl | assumption | (simp [cg_ok]; omega)) rfl (by decide) rfl inX4_doesSync_X4 flX4_doesSync_7 dX4_doesSync_90 ?_
          refine cr_iload (pc := 93) C dX4_doesSync_93 rfl ?_
          refine cr_iaload (pc := 95) C rfl (by first | rfl | assumption | (simp [cg_ok]; omega)) (by omega) (by first | decide | omega) dX4_doesSync_95 ?_
          rw [cg_sb_s]
          rw [cg_un (by omega)]
          rw [ho2]
          refine cr_iadd_n (pc := 96) C dX4_doesSync_96 ?_
          refine cr_iaload (pc := 97) C rfl (by first | rfl | assumption | (simp [cg_ok]; omega)) (by omega) (by first | decide | omega) dX4_doesSync_97 ?_
          rw [cg_sb_s]
          rw [cg_un (by omega)]
          refine cr_icmp_le_t (pc := 98) (tgt := 155) C dX4_doesSync_98 (by decide) hdt ?_
          refine cr_iinc4 (pc := 155) C dX4_doesSync_155 (cg_inc1 _) (by decide) rfl ?_
          refine cr_goto (pc := 158) (tgt := 27) C dX4_doesSync_158 (by decide) ?_
          have e1 : cg_sy P f t (w + 1) = cg_sy P f t w := by simp [cg_sy, hkf, hkt]
          have e2 := ih (w + 1) (some (.inl (nI (13 + 5 * w)))) (some (.inl (P (14 + 5 * w)))) (by omega)
          rw [e1] at e2
          exact e2
  refine cr_iload_n (pc := 0) C dX4_doesSync_0 rfl ?_
  refine cr_dS (pc := 1) C (sm_isReplica1 hf) rfl gX4_doesSync_X4_isReplica rfl dX4_doesSync_1 hsX4_isReplica rfl ⟨rfl, rfl, Nat.le_of_ble_eq_true rfl, Nat.le_of_ble_eq_true rfl⟩ (Nat.le_of_ble_eq_true rfl) rfl ?_
  refine cr_if_eq_f (pc := 4) (tgt := 19) C dX4_doesSync_4 (by decide) (by decide) ?_
  refine cr_iload_n (pc := 7) C dX4_doesSync_7 rfl ?_
  refine cr_dS (pc := 8) C (sm_isReplica1 ht) rfl gX4_doesSync_X4_isReplica rfl dX4_doesSync_8 hsX4_isReplica rfl ⟨rfl, rfl, Nat.le_of_ble_eq_true rfl, Nat.le_of_ble_eq_true rfl⟩ (Nat.le_of_ble_eq_true rfl) rfl ?_
  refine cr_if_eq_f (pc := 11) (tgt := 19) C dX4_doesSync_11 (by decide) (by decide) ?_
  refine cr_iload_n (pc := 14) C dX4_doesSync_14 rfl ?_
  refine cr_iload_n (pc := 15) C dX4_doesSync_15 rfl ?_
  refine cr_icmp_ne_t (pc := 16) (tgt := 22) C dX4_doesSync_16 (by decide) (fun q => hne ((nI_eq (by omega) (by omega)).mp q)) ?_
  refine cr_iconst (pc := 22) (v := nI 0) C dX4_doesSync_22 (by decide) ?_
  refine cr_istore_n3 (pc := 23) C dX4_doesSync_23 (by decide) rfl ?_
  refine cr_iconst (pc := 24) (v := nI 0) C dX4_doesSync_24 (by decide) ?_
  refine cr_istore4 (pc := 25) C dX4_doesSync_25 (by decide) rfl ?_
  refine cr_mem (M' := cg_sb M 20 (upd P (9 + t) (P (9 + t)))) (by rw [cg_uid]) ?_
  exact loop n 0 _ _ (by omega)
set_option maxRecDepth 100000 in
set_option maxHeartbeats 4000000 in
theorem sm_sync0 {M : cg_M} {P : Nat → Int32} {x y : Int32} (h : ¬ (cg_in x 3 ∧ cg_in y 3 ∧ x ≠ y)) : cg_D yX4_doesSync wsX4_doesSync rmX4_doesSync [.inr (.inr (4, 0, 0, 0)), .inl (x), .inl (y)] (cg_sb M 20 P) (some (.inl (-2))) ((cg_sb M 20 P)) := by
  rcases Classical.em (cg_in x 3) with ⟨f, hf, rfl⟩ | hx
  rcases Classical.em (cg_in y 3) with ⟨t, ht, rfl⟩ | hy
  · refine cg_S_of (cc := cX4_doesSync) (maxL := 7) (ret := (some .int)) (ls0 := [some (.inr (.inr (4, 0, 0, 0))), some (.inl (nI f)), some (.inl (nI t)), none, none, none, none]) RX4 rfl (by decide) rfl rfl (Nat.le_of_ble_eq_true rfl) (fun E C X => ?_)
    refine cr_iload_n (pc := 0) C dX4_doesSync_0 rfl ?_
    refine cr_dS (pc := 1) C (sm_isReplica1 hf) rfl gX4_doesSync_X4_isReplica rfl dX4_doesSync_1 hsX4_isReplica rfl ⟨rfl, rfl, Nat.le_of_ble_eq_true rfl, Nat.le_of_ble_eq_true rfl⟩ (Nat.le_of_ble_eq_true rfl) rfl ?_
    refine cr_if_eq_f (pc := 4) (tgt := 19) C dX4_doesSync_4 (by decide) (by decide) ?_
    refine cr_iload_n (pc := 7) C dX4_doesSync_7 rfl ?_
    refine cr_dS (pc := 8) C (sm_isReplica1 ht) rfl gX4_doesSync_X4_isReplica rfl dX4_doesSync_8 hsX4_isReplica rfl ⟨rfl, rfl, Nat.le_of_ble_eq_true rfl, Nat.le_of_ble_eq_true rfl⟩ (Nat.le_of_ble_eq_true rfl) rfl ?_
    refine cr_if_eq_f (pc := 11) (tgt := 19) C dX4_doesSync_11 (by decide) (by decide) ?_
    refine cr_iload_n (pc := 14) C dX4_doesSync_14 rfl ?_
    refine cr_iload_n (pc := 15) C dX4_doesSync_15 rfl ?_
    refine cr_icmp_ne_f (pc := 16) (tgt := 22) C dX4_doesSync_16 (by decide) (Classical.not_not.mp (fun z => h ⟨⟨_, hf, rfl⟩, ⟨_, ht, rfl⟩, z⟩)) ?_
    refine cr_bipush (pc := 19) (v := (-2)) C dX4_doesSync_19 (by decide) ?_
    refine cr_ireturn (pc := 21) C X dX4_doesSync_21 ?_
    exact ⟨rfl, rfl⟩
  · refine cg_S_of (cc := cX4_doesSync) (maxL := 7) (ret := (some .int)) (ls0 := [some (.inr (.inr (4, 0, 0, 0))), some (.inl (nI f)), some (.inl (y)), none, none, none, none]) RX4 rfl (by decide) rfl rfl (Nat.le_of_ble_eq_true rfl) (fun E C X => ?_)
    refine cr_iload_n (pc := 0) C dX4_doesSync_0 rfl ?_
    refine cr_dS (pc := 1) C (sm_isReplica1 hf) rfl gX4_doesSync_X4_isReplica rfl dX4_doesSync_1 hsX4_isReplica rfl ⟨rfl, rfl, Nat.le_of_ble_eq_true rfl, Nat.le_of_ble_eq_true rfl⟩ (Nat.le_of_ble_eq_true rfl) rfl ?_
    refine cr_if_eq_f (pc := 4) (tgt := 19) C dX4_doesSync_4 (by decide) (by decide) ?_
    refine cr_iload_n (pc := 7) C dX4_doesSync_7 rfl ?_
    refine cr_dS (pc := 8) C (sm_isReplica0 hy) rfl gX4_doesSync_X4_isReplica rfl dX4_doesSync_8 hsX4_isReplica rfl ⟨rfl, rfl, Nat.le_of_ble_eq_true rfl, Nat.le_of_ble_eq_true rfl⟩ (Nat.le_of_ble_eq_true rfl) rfl ?_
    refine cr_if_eq_t (pc := 11) (tgt := 19) C dX4_doesSync_11 (by decide) (by decide) ?_
    refine cr_bipush (pc := 19) (v := (-2)) C dX4_doesSync_19 (by decide) ?_
    refine cr_ireturn (pc := 21) C X dX4_doesSync_21 ?_
    exact ⟨rfl, rfl⟩
  · refine cg_S_of (cc := cX4_doesSync) (maxL := 7) (ret := (some .int)) (ls0 := [some (.inr (.inr (4, 0, 0, 0))), some (.inl (x)), some (.inl (y)), none, none, none, none]) RX4 rfl (by decide) rfl rfl (Nat.le_of_ble_eq_true rfl) (fun E C X => ?_)
    refine cr_iload_n (pc := 0) C dX4_doesSync_0 rfl ?_
    refine cr_dS (pc := 1) C (sm_isReplica0 hx) rfl gX4_doesSync_X4_isReplica rfl dX4_doesSync_1 hsX4_isReplica rfl ⟨rfl, rfl, Nat.le_of_ble_eq_true rfl, Nat.le_of_ble_eq_true rfl⟩ (Nat.le_of_ble_eq_true rfl) rfl ?_
    refine cr_if_eq_t (pc := 4) (tgt := 19) C dX4_doesSync_4 (by decide) (by decide) ?_
    refine cr_bipush (pc := 19) (v := (-2)) C dX4_doesSync_19 (by decide) ?_
    refine cr_ireturn (pc := 21) C X dX4_doesSync_21 ?_
    exact ⟨rfl, rfl⟩
