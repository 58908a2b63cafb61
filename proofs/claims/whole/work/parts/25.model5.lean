/-! ===== the reference: questions ===== -/
set_option maxRecDepth 100000 in
set_option maxHeartbeats 4000000 in
theorem sm_readCount1 {M : cg_M} {c o : Nat}  (hc : c < 4) (ho : o < 3)  : cg_D yX4_readCount wsX4_readCount rmX4_readCount [.inr (.inr (4, 0, 0, 0)), .inl (nI c), .inl (nI o)] M (some (.inl (M 20 (314 + 7 * c + o)))) (M) := by
  refine cg_S_of (cc := cX4_readCount) (maxL := 3) (ret := (some .int)) (ls0 := [some (.inr (.inr (4, 0, 0, 0))), some (.inl (nI c)), some (.inl (nI o))]) RX4 rfl (by decide) rfl rfl (Nat.le_of_ble_eq_true rfl) (fun E C X => ?_)
  refine cr_iload_n (pc := 0) C dX4_readCount_0 rfl ?_
  refine cr_dS (pc := 1) C (sm_isClient1 hc) rfl gX4_readCount_X4_isClient rfl dX4_readCount_1 hsX4_isClient rfl ⟨rfl, rfl, Nat.le_of_ble_eq_true rfl, Nat.le_of_ble_eq_true rfl⟩ (Nat.le_of_ble_eq_true rfl) rfl ?_
  refine cr_if_eq_f (pc := 4) (tgt := 34) C dX4_readCount_4 (by decide) (by decide) ?_
  refine cr_iload_n (pc := 7) C dX4_readCount_7 rfl ?_
  refine cr_dS (pc := 8) C (sm_isReplica1 ho) rfl gX4_readCount_X4_isReplica rfl dX4_readCount_8 hsX4_isReplica rfl ⟨rfl, rfl, Nat.le_of_ble_eq_true rfl, Nat.le_of_ble_eq_true rfl⟩ (Nat.le_of_ble_eq_true rfl) rfl ?_
  refine cr_if_eq_f (pc := 11) (tgt := 34) C dX4_readCount_11 (by decide) (by decide) ?_
  refine cr_aload_n (pc := 14) C dX4_readCount_14 rfl ?_
  refine cr_getr (pc := 15) (c := 4) (k := 0) C (by first | rfl | assumption | (simp [cg_ok]; omega)) rfl (by decide) rfl inX4_readCount_X4 flX4_readCount_7 dX4_readCount_15 ?_
  refine cr_sipush (pc := 18) (v := nI 313) C dX4_readCount_18 (by decide) ?_
  refine cr_bipush (pc := 21) (v := nI 7) C dX4_readCount_21 (by decide) ?_
  refine cr_iload_n (pc := 23) C dX4_readCount_23 rfl ?_
  refine cr_imul_n (pc := 24) C dX4_readCount_24 ?_
  refine cr_iadd_n (pc := 25) C dX4_readCount_25 ?_
  refine cr_iconst (pc := 26) (v := nI 1) C dX4_readCount_26 (by decide) ?_
  refine cr_iadd_n (pc := 27) C dX4_readCount_27 ?_
  refine cr_iload_n (pc := 28) C dX4_readCount_28 rfl ?_
  refine cr_iadd_n (pc := 29) C dX4_readCount_29 ?_
  rw [show 313 + 7 * c + 1 + o = 314 + 7 * c + o by omega]
  refine cr_iaload (pc := 30) C rfl (by first | rfl | assumption | (simp [cg_ok]; omega)) (by omega) (by first | decide | omega) dX4_readCount_30 ?_
  refine cr_goto (pc := 31) (tgt := 40) C dX4_readCount_31 (by decide) ?_
  refine cr_ireturn (pc := 40) C X dX4_readCount_40 ?_
  exact ⟨rfl, rfl⟩
set_option maxRecDepth 100000 in
set_option maxHeartbeats 4000000 in
theorem sm_readCount0 {M : cg_M} {x y : Int32} (h : ¬ (cg_in x 4 ∧ cg_in y 3)) : cg_D yX4_readCount wsX4_readCount rmX4_readCount [.inr (.inr (4, 0, 0, 0)), .inl (x), .inl (y)] M (some (.inl (-2))) (cg_erm M 0) := by
  rcases Classical.em (cg_in x 4) with ⟨a, h0, rfl⟩ | hx
  · refine cg_S_of (cc := cX4_readCount) (maxL := 3) (ret := (some .int)) (ls0 := [some (.inr (.inr (4, 0, 0, 0))), some (.inl (nI a)), some (.inl (y))]) RX4 rfl (by decide) rfl rfl (Nat.le_of_ble_eq_true rfl) (fun E C X => ?_)
    refine cr_iload_n (pc := 0) C dX4_readCount_0 rfl ?_
    refine cr_dS (pc := 1) C (sm_isClient1 h0) rfl gX4_readCount_X4_isClient rfl dX4_readCount_1 hsX4_isClient rfl ⟨rfl, rfl, Nat.le_of_ble_eq_true rfl, Nat.le_of_ble_eq_true rfl⟩ (Nat.le_of_ble_eq_true rfl) rfl ?_
    refine cr_if_eq_f (pc := 4) (tgt := 34) C dX4_readCount_4 (by decide) (by decide) ?_
    refine cr_iload_n (pc := 7) C dX4_readCount_7 rfl ?_
    refine cr_dS (pc := 8) C (sm_isReplica0 (fun q => h ⟨⟨_, h0, rfl⟩, q⟩)) rfl gX4_readCount_X4_isReplica rfl dX4_readCount_8 hsX4_isReplica rfl ⟨rfl, rfl, Nat.le_of_ble_eq_true rfl, Nat.le_of_ble_eq_true rfl⟩ (Nat.le_of_ble_eq_true rfl) rfl ?_
    refine cr_if_eq_t (pc := 11) (tgt := 34) C dX4_readCount_11 (by decide) (by decide) ?_
    refine cr_aload_n (pc := 34) C dX4_readCount_34 rfl ?_
    refine cr_bipush (pc := 35) (v := (-2)) C dX4_readCount_35 (by decide) ?_
    refine cr_dV (pc := 37) C (sm_error (e := 0) (by decide) (by decide)) rfl gX4_readCount_X4_error rfl dX4_readCount_37 (by first | rfl | assumption | (simp [cg_ok]; omega)) rfl hvX4_error rfl ⟨rfl, rfl, Nat.le_of_ble_eq_true rfl, Nat.le_of_ble_eq_true rfl⟩ (Nat.le_of_ble_eq_true rfl) rfl ?_
    refine cr_ireturn (pc := 40) C X dX4_readCount_40 ?_
    exact ⟨rfl, rfl⟩
  · refine cg_S_of (cc := cX4_readCount) (maxL := 3) (ret := (some .int)) (ls0 := [some (.inr (.inr (4, 0, 0, 0))), some (.inl (x)), some (.inl (y))]) RX4 rfl (by decide) rfl rfl (Nat.le_of_ble_eq_true rfl) (fun E C X => ?_)
    refine cr_iload_n (pc := 0) C dX4_readCount_0 rfl ?_
    refine cr_dS (pc := 1) C (sm_isClient0 hx) rfl gX4_readCount_X4_isClient rfl dX4_readCount_1 hsX4_isClient rfl ⟨rfl, rfl, Nat.le_of_ble_eq_true rfl, Nat.le_of_ble_eq_true rfl⟩ (Nat.le_of_ble_eq_true rfl) rfl ?_
    refine cr_if_eq_t (pc := 4) (tgt := 34) C dX4_readCount_4 (by decide) (by decide) ?_
    refine cr_aload_n (pc := 34) C dX4_readCount_34 rfl ?_
    refine cr_bipush (pc := 35) (v := (-2)) C dX4_readCount_35 (by decide) ?_
    refine cr_dV (pc := 37) C (sm_error (e := 0) (by decide) (by decide)) rfl gX4_readCount_X4_error rfl dX4_readCount_37 (by first | rfl | assumption | (simp [cg_ok]; omega)) rfl hvX4_error rfl ⟨rfl, rfl, Nat.le_of_ble_eq_true rfl, Nat.le_of_ble_eq_true rfl⟩ (Nat.le_of_ble_eq_true rfl) rfl ?_
    refine cr_ireturn (pc := 40) C X dX4_readCount_40 ?_
    exact ⟨rfl, rfl⟩
set_option maxRecDepth 100000 in
set_option maxHeartbeats 4000000 in
theorem sm_writeCount1 {M : cg_M} {c o : Nat}  (hc : c < 4) (ho : o < 3)  : cg_D yX4_writeCount wsX4_writeCount rmX4_writeCount [.inr (.inr (4, 0, 0, 0)), .inl (nI c), .inl (nI o)] M (some (.inl (M 20 (317 + 7 * c + o)))) (M) := by
  refine cg_S_of (cc := cX4_writeCount) (maxL := 3) (ret := (some .int)) (ls0 := [some (.inr (.inr (4, 0, 0, 0))), some (.inl (nI c)), some (.inl (nI o))]) RX4 rfl (by decide) rfl rfl (Nat.le_of_ble_eq_true rfl) (fun E C X => ?_)
  refine cr_iload_n (pc := 0) C dX4_writeCount_0 rfl ?_
  refine cr_dS (pc := 1) C (sm_isClient1 hc) rfl gX4_writeCount_X4_isClient rfl dX4_writeCount_1 hsX4_isClient rfl ⟨rfl, rfl, Nat.le_of_ble_eq_true rfl, Nat.le_of_ble_eq_true rfl⟩ (Nat.le_of_ble_eq_true rfl) rfl ?_
  refine cr_if_eq_f (pc := 4) (tgt := 34) C dX4_writeCount_4 (by decide) (by decide) ?_
  refine cr_iload_n (pc := 7) C dX4_writeCount_7 rfl ?_
  refine cr_dS (pc := 8) C (sm_isReplica1 ho) rfl gX4_writeCount_X4_isReplica rfl dX4_writeCount_8 hsX4_isReplica rfl ⟨rfl, rfl, Nat.le_of_ble_eq_true rfl, Nat.le_of_ble_eq_true rfl⟩ (Nat.le_of_ble_eq_true rfl) rfl ?_
  refine cr_if_eq_f (pc := 11) (tgt := 34) C dX4_writeCount_11 (by decide) (by decide) ?_
  refine cr_aload_n (pc := 14) C dX4_writeCount_14 rfl ?_
  refine cr_getr (pc := 15) (c := 4) (k := 0) C (by first | rfl | assumption | (simp [cg_ok]; omega)) rfl (by decide) rfl inX4_writeCount_X4 flX4_writeCount_7 dX4_writeCount_15 ?_
  refine cr_sipush (pc := 18) (v := nI 313) C dX4_writeCount_18 (by decide) ?_
  refine cr_bipush (pc := 21) (v := nI 7) C dX4_writeCount_21 (by decide) ?_
  refine cr_iload_n (pc := 23) C dX4_writeCount_23 rfl ?_
  refine cr_imul_n (pc := 24) C dX4_writeCount_24 ?_
  refine cr_iadd_n (pc := 25) C dX4_writeCount_25 ?_
  refine cr_iconst (pc := 26) (v := nI 4) C dX4_writeCount_26 (by decide) ?_
  refine cr_iadd_n (pc := 27) C dX4_writeCount_27 ?_
  refine cr_iload_n (pc := 28) C dX4_writeCount_28 rfl ?_
  refine cr_iadd_n (pc := 29) C dX4_writeCount_29 ?_
  rw [show 313 + 7 * c + 4 + o = 317 + 7 * c + o by omega]
  refine cr_iaload (pc := 30) C rfl (by first | rfl | assumption | (simp [cg_ok]; omega)) (by omega) (by first | decide | omega) dX4_writeCount_30 ?_
  refine cr_goto (pc := 31) (tgt := 40) C dX4_writeCount_31 (by decide) ?_
  refine cr_ireturn (pc := 40) C X dX4_writeCount_40 ?_
  exact ⟨rfl, rfl⟩
set_option maxRecDepth 100000 in
set_option maxHeartbeats 4000000 in
theorem sm_writeCount0 {M : cg_M} {x y : Int32} (h : ¬ (cg_in x 4 ∧ cg_in y 3)) : cg_D yX4_writeCount wsX4_writeCount rmX4_writeCount [.inr (.inr (4, 0, 0, 0)), .inl (x), .inl (y)] M (some (.inl (-2))) (cg_erm M 0) := by
  rcases Classical.em (cg_in x 4) with ⟨a, h0, rfl⟩ | hx
  · refine cg_S_of (cc := cX4_writeCount) (maxL := 3) (ret := (some .int)) (ls0 := [some (.inr (.inr (4, 0, 0, 0))), some (.inl (nI a)), some (.inl (y))]) RX4 rfl (by decide) rfl rfl (Nat.le_of_ble_eq_true rfl) (fun E C X => ?_)
    refine cr_iload_n (pc := 0) C dX4_writeCount_0 rfl ?_
    refine cr_dS (pc := 1) C (sm_isClient1 h0) rfl gX4_writeCount_X4_isClient rfl dX4_writeCount_1 hsX4_isClient rfl ⟨rfl, rfl, Nat.le_of_ble_eq_true rfl, Nat.le_of_ble_eq_true rfl⟩ (Nat.le_of_ble_eq_true rfl) rfl ?_
    refine cr_if_eq_f (pc := 4) (tgt := 34) C dX4_writeCount_4 (by decide) (by decide) ?_
    refine cr_iload_n (pc := 7) C dX4_writeCount_7 rfl ?_
    refine cr_dS (pc := 8) C (sm_isReplica0 (fun q => h ⟨⟨_, h0, rfl⟩, q⟩)) rfl gX4_writeCount_X4_isReplica rfl dX4_writeCount_8 hsX4_isReplica rfl ⟨rfl, rfl, Nat.le_of_ble_eq_true rfl, Nat.le_of_ble_eq_true rfl⟩ (Nat.le_of_ble_eq_true rfl) rfl ?_
    refine cr_if_eq_t (pc := 11) (tgt := 34) C dX4_writeCount_11 (by decide) (by decide) ?_
    refine cr_aload_n (pc := 34) C dX4_writeCount_34 rfl ?_
    refine cr_bipush (pc := 35) (v := (-2)) C dX4_writeCount_35 (by decide) ?_
    refine cr_dV (pc := 37) C (sm_error (e := 0) (by decide) (by decide)) rfl gX4_writeCount_X4_error rfl dX4_writeCount_37 (by first | rfl | assumption | (simp [cg_ok]; omega)) rfl hvX4_error rfl ⟨rfl, rfl, Nat.le_of_ble_eq_true rfl, Nat.le_of_ble_eq_true rfl⟩ (Nat.le_of_ble_eq_true rfl) rfl ?_
    refine cr_ireturn (pc := 40) C X dX4_writeCount_40 ?_
    exact ⟨rfl, rfl⟩
  · refine cg_S_of (cc := cX4_writeCount) (maxL := 3) (ret := (some .int)) (ls0 := [some (.inr (.inr (4, 0, 0, 0))), some (.inl (x)), some (.inl (y))]) RX4 rfl (by decide) rfl rfl (Nat.le_of_ble_eq_true rfl) (fun E C X => ?_)
    refine cr_iload_n (pc := 0) C dX4_writeCount_0 rfl ?_
    refine cr_dS (pc := 1) C (sm_isClient0 hx) rfl gX4_writeCount_X4_isClient rfl dX4_writeCount_1 hsX4_isClient rfl ⟨rfl, rfl, Nat.le_of_ble_eq_true rfl, Nat.le_of_ble_eq_true rfl⟩ (Nat.le_of_ble_eq_true rfl) rfl ?_
    refine cr_if_eq_t (pc := 4) (tgt := 34) C dX4_writeCount_4 (by decide) (by decide) ?_
    refine cr_aload_n (pc := 34) C dX4_writeCount_34 rfl ?_
    refine cr_bipush (pc := 35) (v := (-2)) C dX4_writeCount_35 (by decide) ?_
    refine cr_dV (pc := 37) C (sm_error (e := 0) (by decide) (by decide)) rfl gX4_writeCount_X4_error rfl dX4_writeCount_37 (by first | rfl | assumption | (simp [cg_ok]; omega)) rfl hvX4_error rfl ⟨rfl, rfl, Nat.le_of_ble_eq_true rfl, Nat.le_of_ble_eq_true rfl⟩ (Nat.le_of_ble_eq_true rfl) rfl ?_
    refine cr_ireturn (pc := 40) C X dX4_writeCount_40 ?_
    exact ⟨rfl, rfl⟩
set_option maxRecDepth 100000 in
set_option maxHeartbeats 4000000 in
theorem sm_count1 {M : cg_M} {r o : Nat}  (hr : r < 3) (ho : o < 3)  : cg_D yX4_count wsX4_count rmX4_count [.inr (.inr (4, 0, 0, 0)), .inl (nI r), .inl (nI o)] M (some (.inl (M 20 (3 * r + o)))) (M) := by
  refine cg_S_of (cc := cX4_count) (maxL := 3) (ret := (some .int)) (ls0 := [some (.inr (.inr (4, 0, 0, 0))), some (.inl (nI r)), some (.inl (nI o))]) RX4 rfl (by decide) rfl rfl (Nat.le_of_ble_eq_true rfl) (fun E C X => ?_)
  refine cr_iload_n (pc := 0) C dX4_count_0 rfl ?_
  refine cr_dS (pc := 1) C (sm_isReplica1 hr) rfl gX4_count_X4_isReplica rfl dX4_count_1 hsX4_isReplica rfl ⟨rfl, rfl, Nat.le_of_ble_eq_true rfl, Nat.le_of_ble_eq_true rfl⟩ (Nat.le_of_ble_eq_true rfl) rfl ?_
  refine cr_if_eq_f (pc := 4) (tgt := 27) C dX4_count_4 (by decide) (by decide) ?_
  refine cr_iload_n (pc := 7) C dX4_count_7 rfl ?_
  refine cr_dS (pc := 8) C (sm_isReplica1 ho) rfl gX4_count_X4_isReplica rfl dX4_count_8 hsX4_isReplica rfl ⟨rfl, rfl, Nat.le_of_ble_eq_true rfl, Nat.le_of_ble_eq_true rfl⟩ (Nat.le_of_ble_eq_true rfl) rfl ?_
  refine cr_if_eq_f (pc := 11) (tgt := 27) C dX4_count_11 (by decide) (by decide) ?_
  refine cr_aload_n (pc := 14) C dX4_count_14 rfl ?_
  refine cr_getr (pc := 15) (c := 4) (k := 0) C (by first | rfl | assumption | (simp [cg_ok]; omega)) rfl (by decide) rfl inX4_count_X4 flX4_count_7 dX4_count_15 ?_
  refine cr_iconst (pc := 18) (v := nI 3) C dX4_count_18 (by decide) ?_
  refine cr_iload_n (pc := 19) C dX4_count_19 rfl ?_
  refine cr_imul_n (pc := 20) C dX4_count_20 ?_
  refine cr_iload_n (pc := 21) C dX4_count_21 rfl ?_
  refine cr_iadd_n (pc := 22) C dX4_count_22 ?_
  refine cr_iaload (pc := 23) C rfl (by first | rfl | assumption | (simp [cg_ok]; omega)) (by omega) (by first | decide | omega) dX4_count_23 ?_
  refine cr_goto (pc := 24) (tgt := 33) C dX4_count_24 (by decide) ?_
  refine cr_ireturn (pc := 33) C X dX4_count_33 ?_
  exact ⟨rfl, rfl⟩
set_option maxRecDepth 100000 in
set_option maxHeartbeats 4000000 in
theorem sm_count0 {M : cg_M} {x y : Int32} (h : ¬ (cg_in x 3 ∧ cg_in y 3)) : cg_D yX4_count wsX4_count rmX4_count [.inr (.inr (4, 0, 0, 0)), .inl (x), .inl (y)] M (some (.inl (-2))) (cg_erm M 0) := by
  rcases Classical.em (cg_in x 3) with ⟨a, h0, rfl⟩ | hx
  · refine cg_S_of (cc := cX4_count) (maxL := 3) (ret := (some .int)) (ls0 := [some (.inr (.inr (4, 0, 0, 0))), some (.inl (nI a)), some (.inl (y))]) RX4 rfl (by decide) rfl rfl (Nat.le_of_ble_eq_true rfl) (fun E C X => ?_)
    refine cr_iload_n (pc := 0) C dX4_count_0 rfl ?_
    refine cr_dS (pc := 1) C (sm_isReplica1 h0) rfl gX4_count_X4_isReplica rfl dX4_count_1 hsX4_isReplica rfl ⟨rfl, rfl, Nat.le_of_ble_eq_true rfl, Nat.le_of_ble_eq_true rfl⟩ (Nat.le_of_ble_eq_true rfl) rfl ?_
    refine cr_if_eq_f (pc := 4) (tgt := 27) C dX4_count_4 (by decide) (by decide) ?_
    refine cr_iload_n (pc := 7) C dX4_count_7 rfl ?_
    refine cr_dS (pc := 8) C (sm_isReplica0 (fun q => h ⟨⟨_, h0, rfl⟩, q⟩)) rfl gX4_count_X4_isReplica rfl dX4_count_8 hsX4_isReplica rfl ⟨rfl, rfl, Nat.le_of_ble_eq_true rfl, Nat.le_of_ble_eq_true rfl⟩ (Nat.le_of_ble_eq_true rfl) rfl ?_
    refine cr_if_eq_t (pc := 11) (tgt := 27) C dX4_count_11 (by decide) (by decide) ?_
    refine cr_aload_n (pc := 27) C dX4_count_27 rfl ?_
    refine cr_bipush (pc := 28) (v := (-2)) C dX4_count_28 (by decide) ?_
    refine cr_dV (pc := 30) C (sm_error (e := 0) (by decide) (by decide)) rfl gX4_count_X4_error rfl dX4_count_30 (by first | rfl | assumption | (simp [cg_ok]; omega)) rfl hvX4_error rfl ⟨rfl, rfl, Nat.le_of_ble_eq_true rfl, Nat.le_of_ble_eq_true rfl⟩ (Nat.le_of_ble_eq_true rfl) rfl ?_
    refine cr_ireturn (pc := 33) C X dX4_count_33 ?_
    exact ⟨rfl, rfl⟩
  · refine cg_S_of (cc := cX4_count) (maxL := 3) (ret := (some .int)) (ls0 := [some (.inr (.inr (4, 0, 0, 0))), some (.inl (x)), some (.inl (y))]) RX4 rfl (by decide) rfl rfl (Nat.le_of_ble_eq_true rfl) (fun E C X => ?_)
    refine cr_iload_n (pc := 0) C dX4_count_0 rfl ?_
    refine cr_dS (pc := 1) C (sm_isReplica0 hx) rfl gX4_count_X4_isReplica rfl dX4_count_1 hsX4_isReplica rfl ⟨rfl, rfl, Nat.le_of_ble_eq_true rfl, Nat.le_of_ble_eq_true rfl⟩ (Nat.le_of_ble_eq_true rfl) rfl ?_
    refine cr_if_eq_t (pc := 4) (tgt := 27) C dX4_count_4 (by decide) (by decide) ?_
    refine cr_aload_n (pc := 27) C dX4_count_27 rfl ?_
    refine cr_bipush (pc := 28) (v := (-2)) C dX4_count_28 (by decide) ?_
    refine cr_dV (pc := 30) C (sm_error (e := 0) (by decide) (by decide)) rfl gX4_count_X4_error rfl dX4_count_30 (by first | rfl | assumption | (simp [cg_ok]; omega)) rfl hvX4_error rfl ⟨rfl, rfl, Nat.le_of_ble_eq_true rfl, Nat.le_of_ble_eq_true rfl⟩ (Nat.le_of_ble_eq_true rfl) rfl ?_
    refine cr_ireturn (pc := 33) C X dX4_count_33 ?_
    exact ⟨rfl, rfl⟩
set_option maxRecDepth 100000 in
set_option maxHeartbeats 4000000 in
theorem sm_clock1 {M : cg_M} {r : Nat}  (hr : r < 3)  : cg_D yX4_clock wsX4_clock rmX4_clock [.inr (.inr (4, 0, 0, 0)), .inl (nI r)] M (some (.inl (M 20 (9 + r)))) (M) := by
  refine cg_S_of (cc := cX4_clock) (maxL := 2) (ret := (some .int)) (ls0 := [some (.inr (.inr (4, 0, 0, 0))), some (.inl (nI r))]) RX4 rfl (by decide) rfl rfl (Nat.le_of_ble_eq_true rfl) (fun E C X => ?_)
  refine cr_iload_n (pc := 0) C dX4_clock_0 rfl ?_
  refine cr_dS (pc := 1) C (sm_isReplica1 hr) rfl gX4_clock_X4_isReplica rfl dX4_clock_1 hsX4_isReplica rfl ⟨rfl, rfl, Nat.le_of_ble_eq_true rfl, Nat.le_of_ble_eq_true rfl⟩ (Nat.le_of_ble_eq_true rfl) rfl ?_
  refine cr_if_eq_f (pc := 4) (tgt := 19) C dX4_clock_4 (by decide) (by decide) ?_
  refine cr_aload_n (pc := 7) C dX4_clock_7 rfl ?_
  refine cr_getr (pc := 8) (c := 4) (k := 0) C (by first | rfl | assumption | (simp [cg_ok]; omega)) rfl (by decide) rfl inX4_clock_X4 flX4_clock_7 dX4_clock_8 ?_
  refine cr_bipush (pc := 11) (v := nI 9) C dX4_clock_11 (by decide) ?_
  refine cr_iload_n (pc := 13) C dX4_clock_13 rfl ?_
  refine cr_iadd_n (pc := 14) C dX4_clock_14 ?_
  refine cr_iaload (pc := 15) C rfl (by first | rfl | assumption | (simp [cg_ok]; omega)) (by omega) (by first | decide | omega) dX4_clock_15 ?_
  refine cr_goto (pc := 16) (tgt := 25) C dX4_clock_16 (by decide) ?_
  refine cr_ireturn (pc := 25) C X dX4_clock_25 ?_
  exact ⟨rfl, rfl⟩
set_option maxRecDepth 100000 in
set_option maxHeartbeats 4000000 in
theorem sm_clock0 {M : cg_M} {x : Int32} (h : ¬ cg_in x 3) : cg_D yX4_clock wsX4_clock rmX4_clock [.inr (.inr (4, 0, 0, 0)), .inl (x)] M (some (.inl (-2))) (cg_erm M 0) := by
  refine cg_S_of (cc := cX4_clock) (maxL := 2) (ret := (some .int)) (ls0 := [some (.inr (.inr (4, 0, 0, 0))), some (.inl (x))]) RX4 rfl (by decide) rfl rfl (Nat.le_of_ble_eq_true rfl) (fun E C X => ?_)
  refine cr_iload_n (pc := 0) C dX4_clock_0 rfl ?_
  refine cr_dS (pc := 1) C (sm_isReplica0 h) rfl gX4_clock_X4_isReplica rfl dX4_clock_1 hsX4_isReplica rfl ⟨rfl, rfl, Nat.le_of_ble_eq_true rfl, Nat.le_of_ble_eq_true rfl⟩ (Nat.le_of_ble_eq_true rfl) rfl ?_
  refine cr_if_eq_t (pc := 4) (tgt := 19) C dX4_clock_4 (by decide) (by decide) ?_
  refine cr_aload_n (pc := 19) C dX4_clock_19 rfl ?_
  refine cr_bipush (pc := 20) (v := (-2)) C dX4_clock_20 (by decide) ?_
  refine cr_dV (pc := 22) C (sm_error (e := 0) (by decide) (by decide)) rfl gX4_clock_X4_error rfl dX4_clock_22 (by first | rfl | assumption | (simp [cg_ok]; omega)) rfl hvX4_error rfl ⟨rfl, rfl, Nat.le_of_ble_eq_true rfl, Nat.le_of_ble_eq_true rfl⟩ (Nat.le_of_ble_eq_true rfl) rfl ?_
  refine cr_ireturn (pc := 25) C X dX4_clock_25 ?_
  exact ⟨rfl, rfl⟩
set_option maxRecDepth 100000 in
set_option maxHeartbeats 4000000 in
theorem sm_breaches1 {M : cg_M} {r : Nat} (hr : r < 4) : cg_D yX4_breaches wsX4_breaches rmX4_breaches [.inr (.inr (4, 0, 0, 0)), .inl (nI r)] M (some (.inl (M 20 (341 + r)))) (M) := by
  refine cg_S_of (cc := cX4_breaches) (maxL := 2) (ret := (some .int)) (ls0 := [some (.inr (.inr (4, 0, 0, 0))), some (.inl (nI r))]) RX4 rfl (by decide) rfl rfl (Nat.le_of_ble_eq_true rfl) (fun E C X => ?_)
  refine cr_iload_n (pc := 0) C dX4_breaches_0 rfl ?_
  refine cr_i2l (pc := 1) C dX4_breaches_1 ?_
  refine cr_lconst (pc := 2) (v := 0) C dX4_breaches_2 rfl ?_
  refine cr_ldc2 (pc := 3) C dX4_breaches_3 klX4_breaches_39 ?_
  refine cr_dS (pc := 6) C (sm_in1 ((cg_in64 (n := 3) (by decide)).mpr ⟨_, hr, rfl⟩).1 ((cg_in64 (n := 3) (by decide)).mpr ⟨_, hr, rfl⟩).2) rfl gX4_breaches_X4_in rfl dX4_breaches_6 hsX4_in rfl ⟨rfl, rfl, Nat.le_of_ble_eq_true rfl, Nat.le_of_ble_eq_true rfl⟩ (Nat.le_of_ble_eq_true rfl) rfl ?_
  refine cr_if_eq_f (pc := 9) (tgt := 25) C dX4_breaches_9 (by decide) (by decide) ?_
  refine cr_aload_n (pc := 12) C dX4_breaches_12 rfl ?_
  refine cr_getr (pc := 13) (c := 4) (k := 0) C (by first | rfl | assumption | (simp [cg_ok]; omega)) rfl (by decide) rfl inX4_breaches_X4 flX4_breaches_7 dX4_breaches_13 ?_
  refine cr_sipush (pc := 16) (v := nI 341) C dX4_breaches_16 (by decide) ?_
  refine cr_iload_n (pc := 19) C dX4_breaches_19 rfl ?_
  refine cr_iadd_n (pc := 20) C dX4_breaches_20 ?_
  refine cr_iaload (pc := 21) C rfl (by first | rfl | assumption | (simp [cg_ok]; omega)) (by omega) (by first | decide | omega) dX4_breaches_21 ?_
  refine cr_goto (pc := 22) (tgt := 31) C dX4_breaches_22 (by decide) ?_
  refine cr_ireturn (pc := 31) C X dX4_breaches_31 ?_
  exact ⟨rfl, rfl⟩
set_option maxRecDepth 100000 in
set_option maxHeartbeats 4000000 in
theorem sm_breaches0 {M : cg_M} {x : Int32} (h : ¬ cg_in x 4) : cg_D yX4_breaches wsX4_breaches rmX4_breaches [.inr (.inr (4, 0, 0, 0)), .inl (x)] M (some (.inl (-2))) (cg_erm M 0) := by
  refine cg_S_of (cc := cX4_breaches) (maxL := 2) (ret := (some .int)) (ls0 := [some (.inr (.inr (4, 0, 0, 0))), some (.inl (x))]) RX4 rfl (by decide) rfl rfl (Nat.le_of_ble_eq_true rfl) (fun E C X => ?_)
  refine cr_iload_n (pc := 0) C dX4_breaches_0 rfl ?_
  refine cr_i2l (pc := 1) C dX4_breaches_1 ?_
  refine cr_lconst (pc := 2) (v := 0) C dX4_breaches_2 rfl ?_
  refine cr_ldc2 (pc := 3) C dX4_breaches_3 klX4_breaches_39 ?_
  refine cr_dS (pc := 6) C (sm_in0 (fun q => (h) ((cg_in64 (n := 3) (by decide)).mp q))) rfl gX4_breaches_X4_in rfl dX4_breaches_6 hsX4_in rfl ⟨rfl, rfl, Nat.le_of_ble_eq_true rfl, Nat.le_of_ble_eq_true rfl⟩ (Nat.le_of_ble_eq_true rfl) rfl ?_
  refine cr_if_eq_t (pc := 9) (tgt := 25) C dX4_breaches_9 (by decide) (by decide) ?_
  refine cr_aload_n (pc := 25) C dX4_breaches_25 rfl ?_
  refine cr_bipush (pc := 26) (v := (-2)) C dX4_breaches_26 (by decide) ?_
  refine cr_dV (pc := 28) C (sm_error (e := 0) (by decide) (by decide)) rfl gX4_breaches_X4_error rfl dX4_breaches_28 (by first | rfl | assumption | (simp [cg_ok]; omega)) rfl hvX4_error rfl ⟨rfl, rfl, Nat.le_of_ble_eq_true rfl, Nat.le_of_ble_eq_true rfl⟩ (Nat.le_of_ble_eq_true rfl) rfl ?_
  refine cr_ireturn (pc := 31) C X dX4_breaches_31 ?_
  exact ⟨rfl, rfl⟩
set_option maxRecDepth 100000 in
set_option maxHeartbeats 4000000 in
theorem sm_writes {M : cg_M} : cg_D yX4_writes wsX4_writes rmX4_writes [.inr (.inr (4, 0, 0, 0))] M (some (.inl (M 20 12))) (M) := by
  refine cg_S_of (cc := cX4_writes) (maxL := 1) (ret := (some .int)) (ls0 := [some (.inr (.inr (4, 0, 0, 0)))]) RX4 rfl (by decide) rfl rfl (Nat.le_of_ble_eq_true rfl) (fun E C X => ?_)
  refine cr_aload_n (pc := 0) C dX4_writes_0 rfl ?_
  refine cr_getr (pc := 1) (c := 4) (k := 0) C (by first | rfl | assumption | (simp [cg_ok]; omega)) rfl (by decide) rfl inX4_writes_X4 flX4_writes_7 dX4_writes_1 ?_
  refine cr_bipush (pc := 4) (v := nI 12) C dX4_writes_4 (by decide) ?_
  refine cr_iaload (pc := 6) C rfl (by first | rfl | assumption | (simp [cg_ok]; omega)) (by decide) (by first | decide | omega) dX4_writes_6 ?_
  refine cr_ireturn (pc := 7) C X dX4_writes_7 ?_
  exact ⟨rfl, rfl⟩
set_option maxRecDepth 100000 in
set_option maxHeartbeats 4000000 in
theorem sm_clearText {M : cg_M} : cg_D yX4_clearText wsX4_clearText rmX4_clearText [.inr (.inr (4, 0, 0, 0))] M (some (.inl (M 26 6))) (cg_up M 26 6 (nI 0)) := by
  refine cg_S_of (cc := cX4_clearText) (maxL := 2) (ret := (some .int)) (ls0 := [some (.inr (.inr (4, 0, 0, 0))), none]) RX4 rfl (by decide) rfl rfl (Nat.le_of_ble_eq_true rfl) (fun E C X => ?_)
  refine cr_aload_n (pc := 0) C dX4_clearText_0 rfl ?_
  refine cr_geti (pc := 1) (c := 4) (k := 6) C (by first | rfl | assumption | (simp [cg_ok]; omega)) rfl (by decide) rfl rfl inX4_clearText_X4 flX4_clearText_119 dX4_clearText_1 ?_
  refine cr_istore_n1 (pc := 4) C dX4_clearText_4 (by decide) rfl ?_
  refine cr_aload_n (pc := 5) C dX4_clearText_5 rfl ?_
  refine cr_iconst (pc := 6) (v := nI 0) C dX4_clearText_6 (by decide) ?_
  refine cr_puti (pc := 7) (c := 4) (k := 6) C (by first | rfl | assumption | (simp [cg_ok]; omega)) rfl (by decide) rfl rfl inX4_clearText_X4 flX4_clearText_119 rfl (by first | rfl | decide) rfl dX4_clearText_7 ?_
  refine cr_iload_n (pc := 10) C dX4_clearText_10 rfl ?_
  refine cr_ireturn (pc := 11) C X dX4_clearText_11 ?_
  exact ⟨rfl, rfl⟩
set_option maxRecDepth 100000 in
set_option maxHeartbeats 4000000 in
theorem sm_errorCount1 {M : cg_M} {x : Int32} {e : Nat} (he : e < 5) (h1 : (-6) ≤ x) (h2 : x ≤ (-2)) (hx : (-2) - x = nI e) : cg_D yX4_errorCount wsX4_errorCount rmX4_errorCount [.inr (.inr (4, 0, 0, 0)), .inl (x)] M (some (.inl (M 23 e))) (M) := by
  refine cg_S_of (cc := cX4_errorCount) (maxL := 2) (ret := (some .int)) (ls0 := [some (.inr (.inr (4, 0, 0, 0))), some (.inl (x))]) RX4 rfl (by decide) rfl rfl (Nat.le_of_ble_eq_true rfl) (fun E C X => ?_)
  refine cr_iload_n (pc := 0) C dX4_errorCount_0 rfl ?_
  refine cr_i2l (pc := 1) C dX4_errorCount_1 ?_
  refine cr_ldc2 (pc := 2) C dX4_errorCount_2 klX4_errorCount_152 ?_
  refine cr_ldc2 (pc := 5) C dX4_errorCount_5 klX4_errorCount_154 ?_
  refine cr_dS (pc := 8) C (sm_in1 (cg_err64.mpr ⟨h1, h2⟩).1 (cg_err64.mpr ⟨h1, h2⟩).2) rfl gX4_errorCount_X4_in rfl dX4_errorCount_8 hsX4_in rfl ⟨rfl, rfl, Nat.le_of_ble_eq_true rfl, Nat.le_of_ble_eq_true rfl⟩ (Nat.le_of_ble_eq_true rfl) rfl ?_
  refine cr_if_eq_f (pc := 11) (tgt := 26) C dX4_errorCount_11 (by decide) (by decide) ?_
  refine cr_aload_n (pc := 14) C dX4_errorCount_14 rfl ?_
  refine cr_getr (pc := 15) (c := 4) (k := 4) C (by first | rfl | assumption | (simp [cg_ok]; omega)) rfl (by decide) rfl inX4_errorCount_X4 flX4_errorCount_19 dX4_errorCount_15 ?_
  refine cr_bipush (pc := 18) (v := (-2)) C dX4_errorCount_18 (by decide) ?_
  refine cr_iload_n (pc := 20) C dX4_errorCount_20 rfl ?_
  refine cr_isub (pc := 21) C dX4_errorCount_21 ?_
  rw [hx]
  refine cr_iaload (pc := 22) C rfl (by first | rfl | assumption | (simp [cg_ok]; omega)) (by omega) (by first | decide | omega) dX4_errorCount_22 ?_
  refine cr_goto (pc := 23) (tgt := 32) C dX4_errorCount_23 (by decide) ?_
  refine cr_ireturn (pc := 32) C X dX4_errorCount_32 ?_
  exact ⟨rfl, rfl⟩
set_option maxRecDepth 100000 in
set_option maxHeartbeats 4000000 in
theorem sm_errorCount0 {M : cg_M} {x : Int32} (h : ¬ ((-6) ≤ x ∧ x ≤ (-2))) : cg_D yX4_errorCount wsX4_errorCount rmX4_errorCount [.inr (.inr (4, 0, 0, 0)), .inl (x)] M (some (.inl (-2))) (cg_erm M 0) := by
  refine cg_S_of (cc := cX4_errorCount) (maxL := 2) (ret := (some .int)) (ls0 := [some (.inr (.inr (4, 0, 0, 0))), some (.inl (x))]) RX4 rfl (by decide) rfl rfl (Nat.le_of_ble_eq_true rfl) (fun E C X => ?_)
  refine cr_iload_n (pc := 0) C dX4_errorCount_0 rfl ?_
  refine cr_i2l (pc := 1) C dX4_errorCount_1 ?_
  refine cr_ldc2 (pc := 2) C dX4_errorCount_2 klX4_errorCount_152 ?_
  refine cr_ldc2 (pc := 5) C dX4_errorCount_5 klX4_errorCount_154 ?_
  refine cr_dS (pc := 8) C (sm_in0 (fun q => h (cg_err64.mp q))) rfl gX4_errorCount_X4_in rfl dX4_errorCount_8 hsX4_in rfl ⟨rfl, rfl, Nat.le_of_ble_eq_true rfl, Nat.le_of_ble_eq_true rfl⟩ (Nat.le_of_ble_eq_true rfl) rfl ?_
  refine cr_if_eq_t (pc := 11) (tgt := 26) C dX4_errorCount_11 (by decide) (by decide) ?_
  refine cr_aload_n (pc := 26) C dX4_errorCount_26 rfl ?_
  refine cr_bipush (pc := 27) (v := (-2)) C dX4_errorCount_27 (by decide) ?_
  refine cr_dV (pc := 29) C (sm_error (e := 0) (by decide) (by decide)) rfl gX4_errorCount_X4_error rfl dX4_errorCount_29 (by first | rfl | assumption | (simp [cg_ok]; omega)) rfl hvX4_error rfl ⟨rfl, rfl, Nat.le_of_ble_eq_true rfl, Nat.le_of_ble_eq_true rfl⟩ (Nat.le_of_ble_eq_true rfl) rfl ?_
  refine cr_ireturn (pc := 32) C X dX4_errorCount_32 ?_
  exact ⟨rfl, rfl⟩
set_option maxRecDepth 100000 in
set_option maxHeartbeats 4000000 in
theorem sm_append0 {M : cg_M} {x : Int32} (h : ¬ cg_in x 128) : cg_D yX4_append wsX4_append rmX4_append [.inr (.inr (4, 0, 0, 0)), .inl (x)] M (some (.inl (-2))) (cg_erm M 0) := by
  refine cg_S_of (cc := cX4_append) (maxL := 2) (ret := (some .int)) (ls0 := [some (.inr (.inr (4, 0, 0, 0))), some (.inl (x))]) RX4 rfl (by decide) rfl rfl (Nat.le_of_ble_eq_true rfl) (fun E C X => ?_)
  refine cr_iload_n (pc := 0) C dX4_append_0 rfl ?_
  refine cr_i2l (pc := 1) C dX4_append_1 ?_
  refine cr_lconst (pc := 2) (v := 0) C dX4_append_2 rfl ?_
  refine cr_ldc2 (pc := 3) C dX4_append_3 klX4_append_117 ?_
  refine cr_dS (pc := 6) C (sm_in0 (fun q => (h) ((cg_in64 (n := 127) (by decide)).mp q))) rfl gX4_append_X4_in rfl dX4_append_6 hsX4_in rfl ⟨rfl, rfl, Nat.le_of_ble_eq_true rfl, Nat.le_of_ble_eq_true rfl⟩ (Nat.le_of_ble_eq_true rfl) rfl ?_
  refine cr_if_ne_f (pc := 9) (tgt := 19) C dX4_append_9 (by decide) (by decide) ?_
  refine cr_aload_n (pc := 12) C dX4_append_12 rfl ?_
  refine cr_bipush (pc := 13) (v := (-2)) C dX4_append_13 (by decide) ?_
  refine cr_dV (pc := 15) C (sm_error (e := 0) (by decide) (by decide)) rfl gX4_append_X4_error rfl dX4_append_15 (by first | rfl | assumption | (simp [cg_ok]; omega)) rfl hvX4_error rfl ⟨rfl, rfl, Nat.le_of_ble_eq_true rfl, Nat.le_of_ble_eq_true rfl⟩ (Nat.le_of_ble_eq_true rfl) rfl ?_
  refine cr_ireturn (pc := 18) C X dX4_append_18 ?_
  exact ⟨rfl, rfl⟩
set_option maxRecDepth 100000 in
set_option maxHeartbeats 4000000 in
theorem sm_append4 {M : cg_M} {v : Nat} (hv : v < 128) (hl : M 26 6 = nI 100) : cg_D yX4_append wsX4_append rmX4_append [.inr (.inr (4, 0, 0, 0)), .inl (nI v)] M (some (.inl (-4))) (cg_erm M 2) := by
  refine cg_S_of (cc := cX4_append) (maxL := 2) (ret := (some .int)) (ls0 := [some (.inr (.inr (4, 0, 0, 0))), some (.inl (nI v))]) RX4 rfl (by decide) rfl rfl (Nat.le_of_ble_eq_true rfl) (fun E C X => ?_)
  refine cr_iload_n (pc := 0) C dX4_append_0 rfl ?_
  refine cr_i2l (pc := 1) C dX4_append_1 ?_
  refine cr_lconst (pc := 2) (v := 0) C dX4_append_2 rfl ?_
  refine cr_ldc2 (pc := 3) C dX4_append_3 klX4_append_117 ?_
  refine cr_dS (pc := 6) C (sm_in1 ((cg_in64 (n := 127) (by decide)).mpr ⟨_, hv, rfl⟩).1 ((cg_in64 (n := 127) (by decide)).mpr ⟨_, hv, rfl⟩).2) rfl gX4_append_X4_in rfl dX4_append_6 hsX4_in rfl ⟨rfl, rfl, Nat.le_of_ble_eq_true rfl, Nat.le_of_ble_eq_true rfl⟩ (Nat.le_of_ble_eq_true rfl) rfl ?_
  refine cr_if_ne_t (pc := 9) (tgt := 19) C dX4_append_9 (by decide) (by decide) ?_
  refine cr_aload_n (pc := 19) C dX4_append_19 rfl ?_
  refine cr_geti (pc := 20) (c := 4) (k := 6) C (by first | rfl | assumption | (simp [cg_ok]; omega)) rfl (by decide) rfl rfl inX4_append_X4 flX4_append_119 dX4_append_20 ?_
  refine cr_bipush (pc := 23) (v := nI 100) C dX4_append_23 (by decide) ?_
  rw [hl]
  refine cr_icmp_ne_f (pc := 25) (tgt := 35) C dX4_append_25 (by decide) rfl ?_
  refine cr_aload_n (pc := 28) C dX4_append_28 rfl ?_
  refine cr_bipush (pc := 29) (v := (-4)) C dX4_append_29 (by decide) ?_
  refine cr_dV (pc := 31) C (sm_error (e := 2) (by decide) (by decide)) rfl gX4_append_X4_error rfl dX4_append_31 (by first | rfl | assumption | (simp [cg_ok]; omega)) rfl hvX4_error rfl ⟨rfl, rfl, Nat.le_of_ble_eq_true rfl, Nat.le_of_ble_eq_true rfl⟩ (Nat.le_of_ble_eq_true rfl) rfl ?_
  refine cr_ireturn (pc := 34) C X dX4_append_34 ?_
  exact ⟨rfl, rfl⟩
set_option maxRecDepth 100000 in
set_option maxHeartbeats 4000000 in
theorem sm_append1 {M : cg_M} {v n : Nat} (hv : v < 128) (hn : n < 100) (hl : M 26 6 = nI n) : cg_D yX4_append wsX4_append rmX4_append [.inr (.inr (4, 0, 0, 0)), .inl (nI v)] M (some (.inl (nI (n + 1)))) (cg_up (cg_up M 24 n (nI v)) 26 6 (nI (n + 1))) := by
  refine cg_S_of (cc := cX4_append) (maxL := 2) (ret := (some .int)) (ls0 := [some (.inr (.inr (4, 0, 0, 0))), some (.inl (nI v))]) RX4 rfl (by decide) rfl rfl (Nat.le_of_ble_eq_true rfl) (fun E C X => ?_)
  refine cr_iload_n (pc := 0) C dX4_append_0 rfl ?_
  refine cr_i2l (pc := 1) C dX4_append_1 ?_
  refine cr_lconst (pc := 2) (v := 0) C dX4_append_2 rfl ?_
  refine cr_ldc2 (pc := 3) C dX4_append_3 klX4_append_117 ?_
  refine cr_dS (pc := 6) C (sm_in1 ((cg_in64 (n := 127) (by decide)).mpr ⟨_, hv, rfl⟩).1 ((cg_in64 (n := 127) (by decide)).mpr ⟨_, hv, rfl⟩).2) rfl gX4_append_X4_in rfl dX4_append_6 hsX4_in rfl ⟨rfl, rfl, Nat.le_of_ble_eq_true rfl, Nat.le_of_ble_eq_true rfl⟩ (Nat.le_of_ble_eq_true rfl) rfl ?_
  refine cr_if_ne_t (pc := 9) (tgt := 19) C dX4_append_9 (by decide) (by decide) ?_
  refine cr_aload_n (pc := 19) C dX4_append_19 rfl ?_
  refine cr_geti (pc := 20) (c := 4) (k := 6) C (by first | rfl | assumption | (simp [cg_ok]; omega)) rfl (by decide) rfl rfl inX4_append_X4 flX4_append_119 dX4_append_20 ?_
  refine cr_bipush (pc := 23) (v := nI 100) C dX4_append_23 (by decide) ?_
  rw [hl]
  refine cr_icmp_ne_t (pc := 25) (tgt := 35) C dX4_append_25 (by decide) (fun q => absurd ((nI_eq (by omega) (by omega)).mp q) (by omega)) ?_
  refine cr_aload_n (pc := 35) C dX4_append_35 rfl ?_
  refine cr_getr (pc := 36) (c := 4) (k := 5) C (by first | rfl | assumption | (simp [cg_ok]; omega)) rfl (by decide) rfl inX4_append_X4 flX4_append_22 dX4_append_36 ?_
  refine cr_aload_n (pc := 39) C dX4_append_39 rfl ?_
  refine cr_geti (pc := 40) (c := 4) (k := 6) C (by first | rfl | assumption | (simp [cg_ok]; omega)) rfl (by decide) rfl rfl inX4_append_X4 flX4_append_119 dX4_append_40 ?_
  rw [hl]
  refine cr_iload_n (pc := 43) C dX4_append_43 rfl ?_
  refine cr_iastore (pc := 44) C rfl (by first | rfl | assumption | (simp [cg_ok]; omega)) (by omega) (by first | decide | omega) dX4_append_44 ?_
  refine cr_aload_n (pc := 45) C dX4_append_45 rfl ?_
  refine cr_dup (pc := 46) C dX4_append_46 rfl ?_
  refine cr_geti (pc := 47) (c := 4) (k := 6) C (by first | rfl | assumption | (simp [cg_ok]; omega)) rfl (by decide) rfl rfl inX4_append_X4 flX4_append_119 dX4_append_47 ?_
  rw [cg_up_n (by decide), hl]
  refine cr_iconst (pc := 50) (v := nI 1) C dX4_append_50 (by decide) ?_
  refine cr_iadd_n (pc := 51) C dX4_append_51 ?_
  refine cr_puti (pc := 52) (c := 4) (k := 6) C (by first | rfl | assumption | (simp [cg_ok]; omega)) rfl (by decide) rfl rfl inX4_append_X4 flX4_append_119 rfl (by first | rfl | decide) rfl dX4_append_52 ?_
  refine cr_aload_n (pc := 55) C dX4_append_55 rfl ?_
  refine cr_geti (pc := 56) (c := 4) (k := 6) C (by first | rfl | assumption | (simp [cg_ok]; omega)) rfl (by decide) rfl rfl inX4_append_X4 flX4_append_119 dX4_append_56 ?_
  rw [cg_up_s]
  refine cr_ireturn (pc := 59) C X dX4_append_59 ?_
  exact ⟨rfl, rfl⟩
set_option maxRecDepth 100000 in
set_option maxHeartbeats 4000000 in
theorem sm_readBreaches1 {M : cg_M} {c r : Nat}  (hc : c < 4) (hr : r < 3) (hI : cg_I (M 20)) : cg_D yX4_readBreaches wsX4_readBreaches rmX4_readBreaches [.inr (.inr (4, 0, 0, 0)), .inl (nI c), .inl (nI r)] M (some (.inl (nI (cg_uR (M 20) c (2 ^ r))))) (M) := by
  refine cg_S_of (cc := cX4_readBreaches) (maxL := 3) (ret := (some .int)) (ls0 := [some (.inr (.inr (4, 0, 0, 0))), some (.inl (nI c)), some (.inl (nI r))]) RX4 rfl (by decide) rfl rfl (Nat.le_of_ble_eq_true rfl) (fun E C X => ?_)
  refine cr_iload_n (pc := 0) C dX4_readBreaches_0 rfl ?_
  refine cr_dS (pc := 1) C (sm_isClient1 hc) rfl gX4_readBreaches_X4_isClient rfl dX4_readBreaches_1 hsX4_isClient rfl ⟨rfl, rfl, Nat.le_of_ble_eq_true rfl, Nat.le_of_ble_eq_true rfl⟩ (Nat.le_of_ble_eq_true rfl) rfl ?_
  refine cr_if_eq_f (pc := 4) (tgt := 23) C dX4_readBreaches_4 (by decide) (by decide) ?_
  refine cr_iload_n (pc := 7) C dX4_readBreaches_7 rfl ?_
  refine cr_dS (pc := 8) C (sm_isReplica1 hr) rfl gX4_readBreaches_X4_isReplica rfl dX4_readBreaches_8 hsX4_isReplica rfl ⟨rfl, rfl, Nat.le_of_ble_eq_true rfl, Nat.le_of_ble_eq_true rfl⟩ (Nat.le_of_ble_eq_true rfl) rfl ?_
  refine cr_if_eq_f (pc := 11) (tgt := 23) C dX4_readBreaches_11 (by decide) (by decide) ?_
  refine cr_mem (cg_sb_id M 20).symm ?_
  refine cr_aload_n (pc := 14) C dX4_readBreaches_14 rfl ?_
  refine cr_iload_n (pc := 15) C dX4_readBreaches_15 rfl ?_
  refine cr_iload_n (pc := 16) C dX4_readBreaches_16 rfl ?_
  refine cr_dV (pc := 17) C (sm_uR hc hr hI) rfl gX4_readBreaches_X4_breachesOfRead rfl dX4_readBreaches_17 (by first | rfl | assumption | (simp [cg_ok]; omega)) rfl hvX4_breachesOfRead rfl ⟨rfl, rfl, Nat.le_of_ble_eq_true rfl, Nat.le_of_ble_eq_true rfl⟩ (Nat.le_of_ble_eq_true rfl) rfl ?_
  refine cr_goto (pc := 20) (tgt := 29) C dX4_readBreaches_20 (by decide) ?_
  refine cr_ireturn (pc := 29) C X dX4_readBreaches_29 ?_
  exact ⟨rfl, cg_sb_id M 20⟩
set_option maxRecDepth 100000 in
set_option maxHeartbeats 4000000 in
theorem sm_readBreaches0 {M : cg_M} {x y : Int32} (h : ¬ (cg_in x 4 ∧ cg_in y 3)) : cg_D yX4_readBreaches wsX4_readBreaches rmX4_readBreaches [.inr (.inr (4, 0, 0, 0)), .inl (x), .inl (y)] M (some (.inl (-2))) (cg_erm M 0) := by
  rcases Classical.em (cg_in x 4) with ⟨a, h0, rfl⟩ | hx
  · refine cg_S_of (cc := cX4_readBreaches) (maxL := 3) (ret := (some .int)) (ls0 := [some (.inr (.inr (4, 0, 0, 0))), some (.inl (nI a)), some (.inl (y))]) RX4 rfl (by decide) rfl rfl (Nat.le_of_ble_eq_true rfl) (fun E C X => ?_)
    refine cr_iload_n (pc := 0) C dX4_readBreaches_0 rfl ?_
    refine cr_dS (pc := 1) C (sm_isClient1 h0) rfl gX4_readBreaches_X4_isClient rfl dX4_readBreaches_1 hsX4_isClient rfl ⟨rfl, rfl, Nat.le_of_ble_eq_true rfl, Nat.le_of_ble_eq_true rfl⟩ (Nat.le_of_ble_eq_true rfl) rfl ?_
    refine cr_if_eq_f (pc := 4) (tgt := 23) C dX4_readBreaches_4 (by decide) (by decide) ?_
    refine cr_iload_n (pc := 7) C dX4_readBreaches_7 rfl ?_
    refine cr_dS (pc := 8) C (sm_isReplica0 (fun q => h ⟨⟨_, h0, rfl⟩, q⟩)) rfl gX4_readBreaches_X4_isReplica rfl dX4_readBreaches_8 hsX4_isReplica rfl ⟨rfl, rfl, Nat.le_of_ble_eq_true rfl, Nat.le_of_ble_eq_true rfl⟩ (Nat.le_of_ble_eq_true rfl) rfl ?_
    refine cr_if_eq_t (pc := 11) (tgt := 23) C dX4_readBreaches_11 (by decide) (by decide) ?_
    refine cr_aload_n (pc := 23) C dX4_readBreaches_23 rfl ?_
    refine cr_bipush (pc := 24) (v := (-2)) C dX4_readBreaches_24 (by decide) ?_
    refine cr_dV (pc := 26) C (sm_error (e := 0) (by decide) (by decide)) rfl gX4_readBreaches_X4_error rfl dX4_readBreaches_26 (by first | rfl | assumption | (simp [cg_ok]; omega)) rfl hvX4_error rfl ⟨rfl, rfl, Nat.le_of_ble_eq_true rfl, Nat.le_of_ble_eq_true rfl⟩ (Nat.le_of_ble_eq_true rfl) rfl ?_
    refine cr_ireturn (pc := 29) C X dX4_readBreaches_29 ?_
    exact ⟨rfl, rfl⟩
  · refine cg_S_of (cc := cX4_readBreaches) (maxL := 3) (ret := (some .int)) (ls0 := [some (.inr (.inr (4, 0, 0, 0))), some (.inl (x)), some (.inl (y))]) RX4 rfl (by decide) rfl rfl (Nat.le_of_ble_eq_true rfl) (fun E C X => ?_)
    refine cr_iload_n (pc := 0) C dX4_readBreaches_0 rfl ?_
    refine cr_dS (pc := 1) C (sm_isClient0 hx) rfl gX4_readBreaches_X4_isClient rfl dX4_readBreaches_1 hsX4_isClient rfl ⟨rfl, rfl, Nat.le_of_ble_eq_true rfl, Nat.le_of_ble_eq_true rfl⟩ (Nat.le_of_ble_eq_true rfl) rfl ?_
    refine cr_if_eq_t (pc := 4) (tgt := 23) C dX4_readBreaches_4 (by decide) (by decide) ?_
    refine cr_aload_n (pc := 23) C dX4_readBreaches_23 rfl ?_
    refine cr_bipush (pc := 24) (v := (-2)) C dX4_readBreaches_24 (by decide) ?_
    refine cr_dV (pc := 26) C (sm_error (e := 0) (by decide) (by decide)) rfl gX4_readBreaches_X4_error rfl dX4_readBreaches_26 (by first | rfl | assumption | (simp [cg_ok]; omega)) rfl hvX4_error rfl ⟨rfl, rfl, Nat.le_of_ble_eq_true rfl, Nat.le_of_ble_eq_true rfl⟩ (Nat.le_of_ble_eq_true rfl) rfl ?_
    refine cr_ireturn (pc := 29) C X dX4_readBreaches_29 ?_
    exact ⟨rfl, rfl⟩
set_option maxRecDepth 100000 in
set_option maxHeartbeats 4000000 in
theorem sm_writeBreaches1 {M : cg_M} {c r : Nat}  (hc : c < 4) (hr : r < 3) (hI : cg_I (M 20)) : cg_D yX4_writeBreaches wsX4_writeBreaches rmX4_writeBreaches [.inr (.inr (4, 0, 0, 0)), .inl (nI c), .inl (nI r)] M (some (.inl (nI (cg_uW (M 20) c r)))) (M) := by
  refine cg_S_of (cc := cX4_writeBreaches) (maxL := 3) (ret := (some .int)) (ls0 := [some (.inr (.inr (4, 0, 0, 0))), some (.inl (nI c)), some (.inl (nI r))]) RX4 rfl (by decide) rfl rfl (Nat.le_of_ble_eq_true rfl) (fun E C X => ?_)
  refine cr_iload_n (pc := 0) C dX4_writeBreaches_0 rfl ?_
  refine cr_dS (pc := 1) C (sm_isClient1 hc) rfl gX4_writeBreaches_X4_isClient rfl dX4_writeBreaches_1 hsX4_isClient rfl ⟨rfl, rfl, Nat.le_of_ble_eq_true rfl, Nat.le_of_ble_eq_true rfl⟩ (Nat.le_of_ble_eq_true rfl) rfl ?_
  refine cr_if_eq_f (pc := 4) (tgt := 23) C dX4_writeBreaches_4 (by decide) (by decide) ?_
  refine cr_iload_n (pc := 7) C dX4_writeBreaches_7 rfl ?_
  refine cr_dS (pc := 8) C (sm_isReplica1 hr) rfl gX4_writeBreaches_X4_isReplica rfl dX4_writeBreaches_8 hsX4_isReplica rfl ⟨rfl, rfl, Nat.le_of_ble_eq_true rfl, Nat.le_of_ble_eq_true rfl⟩ (Nat.le_of_ble_eq_true rfl) rfl ?_
  refine cr_if_eq_f (pc := 11) (tgt := 23) C dX4_writeBreaches_11 (by decide) (by decide) ?_
  refine cr_mem (cg_sb_id M 20).symm ?_
  refine cr_aload_n (pc := 14) C dX4_writeBreaches_14 rfl ?_
  refine cr_iload_n (pc := 15) C dX4_writeBreaches_15 rfl ?_
  refine cr_iload_n (pc := 16) C dX4_writeBreaches_16 rfl ?_
  refine cr_dV (pc := 17) C (sm_uW hc hr hI) rfl gX4_writeBreaches_X4_breachesOfWrite rfl dX4_writeBreaches_17 (by first | rfl | assumption | (simp [cg_ok]; omega)) rfl hvX4_breachesOfWrite rfl ⟨rfl, rfl, Nat.le_of_ble_eq_true rfl, Nat.le_of_ble_eq_true rfl⟩ (Nat.le_of_ble_eq_true rfl) rfl ?_
  refine cr_goto (pc := 20) (tgt := 29) C dX4_writeBreaches_20 (by decide) ?_
  refine cr_ireturn (pc := 29) C X dX4_writeBreaches_29 ?_
  exact ⟨rfl, cg_sb_id M 20⟩
set_option maxRecDepth 100000 in
set_option maxHeartbeats 4000000 in
theorem sm_writeBreaches0 {M : cg_M} {x y : Int32} (h : ¬ (cg_in x 4 ∧ cg_in y 3)) : cg_D yX4_writeBreaches wsX4_writeBreaches rmX4_writeBreaches [.inr (.inr (4, 0, 0, 0)), .inl (x), .inl (y)] M (some (.inl (-2))) (cg_erm M 0) := by
  rcases Classical.em (cg_in x 4) with ⟨a, h0, rfl⟩ | hx
  · refine cg_S_of (cc := cX4_writeBreaches) (maxL := 3) (ret := (some .int)) (ls0 := [some (.inr (.inr (4, 0, 0, 0))), some (.inl (nI a)), some (.inl (y))]) RX4 rfl (by decide) rfl rfl (Nat.le_of_ble_eq_true rfl) (fun E C X => ?_)
    refine cr_iload_n (pc := 0) C dX4_writeBreaches_0 rfl ?_
    refine cr_dS (pc := 1) C (sm_isClient1 h0) rfl gX4_writeBreaches_X4_isClient rfl dX4_writeBreaches_1 hsX4_isClient rfl ⟨rfl, rfl, Nat.le_of_ble_eq_true rfl, Nat.le_of_ble_eq_true rfl⟩ (Nat.le_of_ble_eq_true rfl) rfl ?_
    refine cr_if_eq_f (pc := 4) (tgt := 23) C dX4_writeBreaches_4 (by decide) (by decide) ?_
    refine cr_iload_n (pc := 7) C dX4_writeBreaches_7 rfl ?_
    refine cr_dS (pc := 8) C (sm_isReplica0 (fun q => h ⟨⟨_, h0, rfl⟩, q⟩)) rfl gX4_writeBreaches_X4_isReplica rfl dX4_writeBreaches_8 hsX4_isReplica rfl ⟨rfl, rfl, Nat.le_of_ble_eq_true rfl, Nat.le_of_ble_eq_true rfl⟩ (Nat.le_of_ble_eq_true rfl) rfl ?_
    refine cr_if_eq_t (pc := 11) (tgt := 23) C dX4_writeBreaches_11 (by decide) (by decide) ?_
    refine cr_aload_n (pc := 23) C dX4_writeBreaches_23 rfl ?_
    refine cr_bipush (pc := 24) (v := (-2)) C dX4_writeBreaches_24 (by decide) ?_
    refine cr_dV (pc := 26) C (sm_error (e := 0) (by decide) (by decide)) rfl gX4_writeBreaches_X4_error rfl dX4_writeBreaches_26 (by first | rfl | assumption | (simp [cg_ok]; omega)) rfl hvX4_error rfl ⟨rfl, rfl, Nat.le_of_ble_eq_true rfl, Nat.le_of_ble_eq_true rfl⟩ (Nat.le_of_ble_eq_true rfl) rfl ?_
    refine cr_ireturn (pc := 29) C X dX4_writeBreaches_29 ?_
    exact ⟨rfl, rfl⟩
  · refine cg_S_of (cc := cX4_writeBreaches) (maxL := 3) (ret := (some .int)) (ls0 := [some (.inr (.inr (4, 0, 0, 0))), some (.inl (x)), some (.inl (y))]) RX4 rfl (by decide) rfl rfl (Nat.le_of_ble_eq_true rfl) (fun E C X => ?_)
    refine cr_iload_n (pc := 0) C dX4_writeBreaches_0 rfl ?_
    refine cr_dS (pc := 1) C (sm_isClient0 hx) rfl gX4_writeBreaches_X4_isClient rfl dX4_writeBreaches_1 hsX4_isClient rfl ⟨rfl, rfl, Nat.le_of_ble_eq_true rfl, Nat.le_of_ble_eq_true rfl⟩ (Nat.le_of_ble_eq_true rfl) rfl ?_
    refine cr_if_eq_t (pc := 4) (tgt := 23) C dX4_writeBreaches_4 (by decide) (by decide) ?_
    refine cr_aload_n (pc := 23) C dX4_writeBreaches_23 rfl ?_
    refine cr_bipush (pc := 24) (v := (-2)) C dX4_writeBreaches_24 (by decide) ?_
    refine cr_dV (pc := 26) C (sm_error (e := 0) (by decide) (by decide)) rfl gX4_writeBreaches_X4_error rfl dX4_writeBreaches_26 (by first | rfl | assumption | (simp [cg_ok]; omega)) rfl hvX4_error rfl ⟨rfl, rfl, Nat.le_of_ble_eq_true rfl, Nat.le_of_ble_eq_true rfl⟩ (Nat.le_of_ble_eq_true rfl) rfl ?_
    refine cr_ireturn (pc := 29) C X dX4_writeBreaches_29 ?_
    exact ⟨rfl, rfl⟩
set_option maxRecDepth 100000 in
set_option maxHeartbeats 4000000 in
theorem sm_readableReplica1 {M : cg_M} {c : Nat}  (hc : c < 4) (hI : cg_I (M 20)) : cg_D yX4_readableReplica wsX4_readableReplica rmX4_readableReplica [.inr (.inr (4, 0, 0, 0)), .inl (nI c)] M (some (.inl (cg_rr (M 20) c))) (M) := by
  refine cg_S_of (cc := cX4_readableReplica) (maxL := 3) (ret := (some .int)) (ls0 := [some (.inr (.inr (4, 0, 0, 0))), some (.inl (nI c)), none]) RX4 rfl (by decide) rfl rfl (Nat.le_of_ble_eq_true rfl) (fun E C X => ?_)
  refine cr_iload_n (pc := 0) C dX4_readableReplica_0 rfl ?_
  refine cr_dS (pc := 1) C (sm_isClient1 hc) rfl gX4_readableReplica_X4_isClient rfl dX4_readableReplica_1 hsX4_isClient rfl ⟨rfl, rfl, Nat.le_of_ble_eq_true rfl, Nat.le_of_ble_eq_true rfl⟩ (Nat.le_of_ble_eq_true rfl) rfl ?_
  refine cr_if_ne_t (pc := 4) (tgt := 14) C dX4_readableReplica_4 (by decide) (by decide) ?_
  refine cr_mem (cg_sb_id M 20).symm ?_
  refine cr_iconst (pc := 14) (v := nI 0) C dX4_readableReplica_14 (by decide) ?_
  refine cr_istore_n2 (pc := 15) C dX4_readableReplica_15 (by decide) rfl ?_
  refine cr_iload_n (pc := 16) C dX4_readableReplica_16 rfl ?_
  refine cr_iconst (pc := 17) (v := nI 3) C dX4_readableReplica_17 (by decide) ?_
  refine cr_icmp_ge_f (pc := 18) (tgt := 44) C dX4_readableReplica_18 (by decide) (by decide) ?_
  refine cr_aload_n (pc := 21) C dX4_readableReplica_21 rfl ?_
  refine cr_iload_n (pc := 22) C dX4_readableReplica_22 rfl ?_
  refine cr_iload_n (pc := 23) C dX4_readableReplica_23 rfl ?_
  refine cr_dV (pc := 24) C (sm_uR hc (by decide) hI) rfl gX4_readableReplica_X4_breachesOfRead rfl dX4_readableReplica_24 (by first | rfl | assumption | (simp [cg_ok]; omega)) rfl hvX4_breachesOfRead rfl ⟨rfl, rfl, Nat.le_of_ble_eq_true rfl, Nat.le_of_ble_eq_true rfl⟩ (Nat.le_of_ble_eq_true rfl) rfl ?_
  refine cr_aload_n (pc := 27) C dX4_readableReplica_27 rfl ?_
  refine cr_iload_n (pc := 28) C dX4_readableReplica_28 rfl ?_
  refine cr_dV (pc := 29) C (sm_gs hc) rfl gX4_readableReplica_X4_guarantees rfl dX4_readableReplica_29 (by first | rfl | assumption | (simp [cg_ok]; omega)) rfl hvX4_guarantees rfl ⟨rfl, rfl, Nat.le_of_ble_eq_true rfl, Nat.le_of_ble_eq_true rfl⟩ (Nat.le_of_ble_eq_true rfl) rfl ?_
  refine cr_iand (pc := 32) C dX4_readableReplica_32 ?_
  refine cr_if_ne (pc := 33) (tgt := 38) C dX4_readableReplica_33 (by decide) (fun h33 => ?_) (fun h33 => ?_)
  · have e0 : cg_rA (M 20) c (2 ^ 0) = false := decide_eq_false h33
    refine cr_iinc2 (pc := 38) (v := nI 1) C dX4_readableReplica_38 (by decide) (by decide) rfl ?_
    refine cr_goto (pc := 41) (tgt := 16) C dX4_readableReplica_41 (by decide) ?_
    refine cr_iload_n (pc := 16) C dX4_readableReplica_16 rfl ?_
    refine cr_iconst (pc := 17) (v := nI 3) C dX4_readableReplica_17 (by decide) ?_
    refine cr_icmp_ge_f (pc := 18) (tgt := 44) C dX4_readableReplica_18 (by decide) (by decide) ?_
    refine cr_aload_n (pc := 21) C dX4_readableReplica_21 rfl ?_
    refine cr_iload_n (pc := 22) C dX4_readableReplica_22 rfl ?_
    refine cr_iload_n (pc := 23) C dX4_readableReplica_23 rfl ?_
    refine cr_dV (pc := 24) C (sm_uR hc (by decide) hI) rfl gX4_readableReplica_X4_breachesOfRead rfl dX4_readableReplica_24 (by first | rfl | assumption | (simp [cg_ok]; omega)) rfl hvX4_breachesOfRead rfl ⟨rfl, rfl, Nat.le_of_ble_eq_true rfl, Nat.le_of_ble_eq_true rfl⟩ (Nat.le_of_ble_eq_true rfl) rfl ?_
    refine cr_aload_n (pc := 27) C dX4_readableReplica_27 rfl ?_
    refine cr_iload_n (pc := 28) C dX4_readableReplica_28 rfl ?_
    refine cr_dV (pc := 29) C (sm_gs hc) rfl gX4_readableReplica_X4_guarantees rfl dX4_readableReplica_29 (by first | rfl | assumption | (simp [cg_ok]; omega)) rfl hvX4_guarantees rfl ⟨rfl, rfl, Nat.le_of_ble_eq_true rfl, Nat.le_of_ble_eq_true rfl⟩ (Nat.le_of_ble_eq_true rfl) rfl ?_
    refine cr_iand (pc := 32) C dX4_readableReplica_32 ?_
    refine cr_if_ne (pc := 33) (tgt := 38) C dX4_readableReplica_33 (by decide) (fun h33 => ?_) (fun h33 => ?_)
    · have e1 : cg_rA (M 20) c (2 ^ 1) = false := decide_eq_false h33
      refine cr_iinc2 (pc := 38) (v := nI 2) C dX4_readableReplica_38 (by decide) (by decide) rfl ?_
      refine cr_goto (pc := 41) (tgt := 16) C dX4_readableReplica_41 (by decide) ?_
      refine cr_iload_n (pc := 16) C dX4_readableReplica_16 rfl ?_
      refine cr_iconst (pc := 17) (v := nI 3) C dX4_readableReplica_17 (by decide) ?_
      refine cr_icmp_ge_f (pc := 18) (tgt := 44) C dX4_readableReplica_18 (by decide) (by decide) ?_
      refine cr_aload_n (pc := 21) C dX4_readableReplica_21 rfl ?_
      refine cr_iload_n (pc := 22) C dX4_readableReplica_22 rfl ?_
      refine cr_iload_n (pc := 23) C dX4_readableReplica_23 rfl ?_
      refine cr_dV (pc := 24) C (sm_uR hc (by decide) hI) rfl gX4_readableReplica_X4_breachesOfRead rfl dX4_readableReplica_24 (by first | rfl | assumption | (simp [cg_ok]; omega)) rfl hvX4_breachesOfRead rfl ⟨rfl, rfl, Nat.le_of_ble_eq_true rfl, Nat.le_of_ble_eq_true rfl⟩ (Nat.le_of_ble_eq_true rfl) rfl ?_
      refine cr_aload_n (pc := 27) C dX4_readableReplica_27 rfl ?_
      refine cr_iload_n (pc := 28) C dX4_readableReplica_28 rfl ?_
      refine cr_dV (pc := 29) C (sm_gs hc) rfl gX4_readableReplica_X4_guarantees rfl dX4_readableReplica_29 (by first | rfl | assumption | (simp [cg_ok]; omega)) rfl hvX4_guarantees rfl ⟨rfl, rfl, Nat.le_of_ble_eq_true rfl, Nat.le_of_ble_eq_true rfl⟩ (Nat.le_of_ble_eq_true rfl) rfl ?_
      refine cr_iand (pc := 32) C dX4_readableReplica_32 ?_
      refine cr_if_ne (pc := 33) (tgt := 38) C dX4_readableReplica_33 (by decide) (fun h33 => ?_) (fun h33 => ?_)
      · have e2 : cg_rA (M 20) c (2 ^ 2) = false := decide_eq_false h33
        refine cr_iinc2 (pc := 38) (v := nI 3) C dX4_readableReplica_38 (by decide) (by decide) rfl ?_
        refine cr_goto (pc := 41) (tgt := 16) C dX4_readableReplica_41 (by decide) ?_
        refine cr_iload_n (pc := 16) C dX4_readableReplica_16 rfl ?_
        refine cr_iconst (pc := 17) (v := nI 3) C dX4_readableReplica_17 (by decide) ?_
        refine cr_icmp_ge_t (pc := 18) (tgt := 44) C dX4_readableReplica_18 (by decide) (by decide) ?_
        refine cr_iconst (pc := 44) (v := (-1)) C dX4_readableReplica_44 (by decide) ?_
        refine cr_ireturn (pc := 45) C X dX4_readableReplica_45 ?_
        exact ⟨by unfold cg_rr; simp [*], cg_sb_id M 20⟩
      · have e2 : cg_rA (M 20) c (2 ^ 2) = true := decide_eq_true h33
        refine cr_iload_n (pc := 36) C dX4_readableReplica_36 rfl ?_
        refine cr_ireturn (pc := 37) C X dX4_readableReplica_37 ?_
        exact ⟨by unfold cg_rr; simp [*], cg_sb_id M 20⟩
    · have e1 : cg_rA (M 20) c (2 ^ 1) = true := decide_eq_true h33
      refine cr_iload_n (pc := 36) C dX4_readableReplica_36 rfl ?_
      refine cr_ireturn (pc := 37) C X dX4_readableReplica_37 ?_
      exact ⟨by unfold cg_rr; simp [*], cg_sb_id M 20⟩
  · have e0 : cg_rA (M 20) c (2 ^ 0) = true := decide_eq_true h33
    refine cr_iload_n (pc := 36) C dX4_readableReplica_36 rfl ?_
    refine cr_ireturn (pc := 37) C X dX4_readableReplica_37 ?_
    exact ⟨by unfold cg_rr; simp [*], cg_sb_id M 20⟩
set_option maxRecDepth 100000 in
set_option maxHeartbeats 4000000 in
theorem sm_readableReplica0 {M : cg_M} {x : Int32} (h : ¬ cg_in x 4) : cg_D yX4_readableReplica wsX4_readableReplica rmX4_readableReplica [.inr (.inr (4, 0, 0, 0)), .inl (x)] M (some (.inl (-2))) (cg_erm M 0) := by
  refine cg_S_of (cc := cX4_readableReplica) (maxL := 3) (ret := (some .int)) (ls0 := [some (.inr (.inr (4, 0, 0, 0))), some (.inl (x)), none]) RX4 rfl (by decide) rfl rfl (Nat.le_of_ble_eq_true rfl) (fun E C X => ?_)
  refine cr_iload_n (pc := 0) C dX4_readableReplica_0 rfl ?_
  refine cr_dS (pc := 1) C (sm_isClient0 h) rfl gX4_readableReplica_X4_isClient rfl dX4_readableReplica_1 hsX4_isClient rfl ⟨rfl, rfl, Nat.le_of_ble_eq_true rfl, Nat.le_of_ble_eq_true rfl⟩ (Nat.le_of_ble_eq_true rfl) rfl ?_
  refine cr_if_ne_f (pc := 4) (tgt := 14) C dX4_readableReplica_4 (by decide) (by decide) ?_
  refine cr_aload_n (pc := 7) C dX4_readableReplica_7 rfl ?_
  refine cr_bipush (pc := 8) (v := (-2)) C dX4_readableReplica_8 (by decide) ?_
  refine cr_dV (pc := 10) C (sm_error (e := 0) (by decide) (by decide)) rfl gX4_readableReplica_X4_error rfl dX4_readableReplica_10 (by first | rfl | assumption | (simp [cg_ok]; omega)) rfl hvX4_error rfl ⟨rfl, rfl, Nat.le_of_ble_eq_true rfl, Nat.le_of_ble_eq_true rfl⟩ (Nat.le_of_ble_eq_true rfl) rfl ?_
  refine cr_ireturn (pc := 13) C X dX4_readableReplica_13 ?_
  exact ⟨rfl, rfl⟩
set_option maxRecDepth 100000 in
set_option maxHeartbeats 4000000 in
theorem sm_writableReplica1 {M : cg_M} {c : Nat}  (hc : c < 4) (hI : cg_I (M 20)) : cg_D yX4_writableReplica wsX4_writableReplica rmX4_writableReplica [.inr (.inr (4, 0, 0, 0)), .inl (nI c)] M (some (.inl (cg_wr3 (M 20) c))) (M) := by
  refine cg_S_of (cc := cX4_writableReplica) (maxL := 3) (ret := (some .int)) (ls0 := [some (.inr (.inr (4, 0, 0, 0))), some (.inl (nI c)), none]) RX4 rfl (by decide) rfl rfl (Nat.le_of_ble_eq_true rfl) (fun E C X => ?_)
  refine cr_iload_n (pc := 0) C dX4_writableReplica_0 rfl ?_
  refine cr_dS (pc := 1) C (sm_isClient1 hc) rfl gX4_writableReplica_X4_isClient rfl dX4_writableReplica_1 hsX4_isClient rfl ⟨rfl, rfl, Nat.le_of_ble_eq_true rfl, Nat.le_of_ble_eq_true rfl⟩ (Nat.le_of_ble_eq_true rfl) rfl ?_
  refine cr_if_ne_t (pc := 4) (tgt := 14) C dX4_writableReplica_4 (by decide) (by decide) ?_
  refine cr_mem (cg_sb_id M 20).symm ?_
  refine cr_iconst (pc := 14) (v := nI 0) C dX4_writableReplica_14 (by decide) ?_
  refine cr_istore_n2 (pc := 15) C dX4_writableReplica_15 (by decide) rfl ?_
  refine cr_iload_n (pc := 16) C dX4_writableReplica_16 rfl ?_
  refine cr_iconst (pc := 17) (v := nI 3) C dX4_writableReplica_17 (by decide) ?_
  refine cr_icmp_ge_f (pc := 18) (tgt := 44) C dX4_writableReplica_18 (by decide) (by decide) ?_
  refine cr_aload_n (pc := 21) C dX4_writableReplica_21 rfl ?_
  refine cr_iload_n (pc := 22) C dX4_writableReplica_22 rfl ?_
  refine cr_iload_n (pc := 23) C dX4_writableReplica_23 rfl ?_
  refine cr_dV (pc := 24) C (sm_uW hc (by decide) hI) rfl gX4_writableReplica_X4_breachesOfWrite rfl dX4_writableReplica_24 (by first | rfl | assumption | (simp [cg_ok]; omega)) rfl hvX4_breachesOfWrite rfl ⟨rfl, rfl, Nat.le_of_ble_eq_true rfl, Nat.le_of_ble_eq_true rfl⟩ (Nat.le_of_ble_eq_true rfl) rfl ?_
  refine cr_aload_n (pc := 27) C dX4_writableReplica_27 rfl ?_
  refine cr_iload_n (pc := 28) C dX4_writableReplica_28 rfl ?_
  refine cr_dV (pc := 29) C (sm_gs hc) rfl gX4_writableReplica_X4_guarantees rfl dX4_writableReplica_29 (by first | rfl | assumption | (simp [cg_ok]; omega)) rfl hvX4_guarantees rfl ⟨rfl, rfl, Nat.le_of_ble_eq_true rfl, Nat.le_of_ble_eq_true rfl⟩ (Nat.le_of_ble_eq_true rfl) rfl ?_
  refine cr_iand (pc := 32) C dX4_writableReplica_32 ?_
  refine cr_if_ne (pc := 33) (tgt := 38) C dX4_writableReplica_33 (by decide) (fun h33 => ?_) (fun h33 => ?_)
  · have e0 : cg_wA (M 20) c 0 = false := decide_eq_false h33
    refine cr_iinc2 (pc := 38) (v := nI 1) C dX4_writableReplica_38 (by decide) (by decide) rfl ?_
    refine cr_goto (pc := 41) (tgt := 16) C dX4_writableReplica_41 (by decide) ?_
    refine cr_iload_n (pc := 16) C dX4_writableReplica_16 rfl ?_
    refine cr_iconst (pc := 17) (v := nI 3) C dX4_writableReplica_17 (by decide) ?_
    refine cr_icmp_ge_f (pc := 18) (tgt := 44) C dX4_writableReplica_18 (by decide) (by decide) ?_
    refine cr_aload_n (pc := 21) C dX4_writableReplica_21 rfl ?_
    refine cr_iload_n (pc := 22) C dX4_writableReplica_22 rfl ?_
    refine cr_iload_n (pc := 23) C dX4_writableReplica_23 rfl ?_
    refine cr_dV (pc := 24) C (sm_uW hc (by decide) hI) rfl gX4_writableReplica_X4_breachesOfWrite rfl dX4_writableReplica_24 (by first | rfl | assumption | (simp [cg_ok]; omega)) rfl hvX4_breachesOfWrite rfl ⟨rfl, rfl, Nat.le_of_ble_eq_true rfl, Nat.le_of_ble_eq_true rfl⟩ (Nat.le_of_ble_eq_true rfl) rfl ?_
    refine cr_aload_n (pc := 27) C dX4_writableReplica_27 rfl ?_
    refine cr_iload_n (pc := 28) C dX4_writableReplica_28 rfl ?_
    refine cr_dV (pc := 29) C (sm_gs hc) rfl gX4_writableReplica_X4_guarantees rfl dX4_writableReplica_29 (by first | rfl | assumption | (simp [cg_ok]; omega)) rfl hvX4_guarantees rfl ⟨rfl, rfl, Nat.le_of_ble_eq_true rfl, Nat.le_of_ble_eq_true rfl⟩ (Nat.le_of_ble_eq_true rfl) rfl ?_
    refine cr_iand (pc := 32) C dX4_writableReplica_32 ?_
    refine cr_if_ne (pc := 33) (tgt := 38) C dX4_writableReplica_33 (by decide) (fun h33 => ?_) (fun h33 => ?_)
    · have e1 : cg_wA (M 20) c 1 = false := decide_eq_false h33
      refine cr_iinc2 (pc := 38) (v := nI 2) C dX4_writableReplica_38 (by decide) (by decide) rfl ?_
      refine cr_goto (pc := 41) (tgt := 16) C dX4_writableReplica_41 (by decide) ?_
      refine cr_iload_n (pc := 16) C dX4_writableReplica_16 rfl ?_
      refine cr_iconst (pc := 17) (v := nI 3) C dX4_writableReplica_17 (by decide) ?_
      refine cr_icmp_ge_f (pc := 18) (tgt := 44) C dX4_writableReplica_18 (by decide) (by decide) ?_
      refine cr_aload_n (pc := 21) C dX4_writableReplica_21 rfl ?_
      refine cr_iload_n (pc := 22) C dX4_writableReplica_22 rfl ?_
      refine cr_iload_n (pc := 23) C dX4_writableReplica_23 rfl ?_
      refine cr_dV (pc := 24) C (sm_uW hc (by decide) hI) rfl gX4_writableReplica_X4_breachesOfWrite rfl dX4_writableReplica_24 (by first | rfl | assumption | (simp [cg_ok]; omega)) rfl hvX4_breachesOfWrite rfl ⟨rfl, rfl, Nat.le_of_ble_eq_true rfl, Nat.le_of_ble_eq_true rfl⟩ (Nat.le_of_ble_eq_true rfl) rfl ?_
      refine cr_aload_n (pc := 27) C dX4_writableReplica_27 rfl ?_
      refine cr_iload_n (pc := 28) C dX4_writableReplica_28 rfl ?_
      refine cr_dV (pc := 29) C (sm_gs hc) rfl gX4_writableReplica_X4_guarantees rfl dX4_writableReplica_29 (by first | rfl | assumption | (simp [cg_ok]; omega)) rfl hvX4_guarantees rfl ⟨rfl, rfl, Nat.le_of_ble_eq_true rfl, Nat.le_of_ble_eq_true rfl⟩ (Nat.le_of_ble_eq_true rfl) rfl ?_
      refine cr_iand (pc := 32) C dX4_writableReplica_32 ?_
      refine cr_if_ne (pc := 33) (tgt := 38) C dX4_writableReplica_33 (by decide) (fun h33 => ?_) (fun h33 => ?_)
      · have e2 : cg_wA (M 20) c 2 = false := decide_eq_false h33
        refine cr_iinc2 (pc := 38) (v := nI 3) C dX4_writableReplica_38 (by decide) (by decide) rfl ?_
        refine cr_goto (pc := 41) (tgt := 16) C dX4_writableReplica_41 (by decide) ?_
        refine cr_iload_n (pc := 16) C dX4_writableReplica_16 rfl ?_
        refine cr_iconst (pc := 17) (v := nI 3) C dX4_writableReplica_17 (by decide) ?_
        refine cr_icmp_ge_t (pc := 18) (tgt := 44) C dX4_writableReplica_18 (by decide) (by decide) ?_
        refine cr_iconst (pc := 44) (v := (-1)) C dX4_writableReplica_44 (by decide) ?_
        refine cr_ireturn (pc := 45) C X dX4_writableReplica_45 ?_
        exact ⟨by unfold cg_wr3; simp [*], cg_sb_id M 20⟩
      · have e2 : cg_wA (M 20) c 2 = true := decide_eq_true h33
        refine cr_iload_n (pc := 36) C dX4_writableReplica_36 rfl ?_
        refine cr_ireturn (pc := 37) C X dX4_writableReplica_37 ?_
        exact ⟨by unfold cg_wr3; simp [*], cg_sb_id M 20⟩
    · have e1 : cg_wA (M 20) c 1 = true := decide_eq_true h33
      refine cr_iload_n (pc := 36) C dX4_writableReplica_36 rfl ?_
      refine cr_ireturn (pc := 37) C X dX4_writableReplica_37 ?_
      exact ⟨by unfold cg_wr3; simp [*], cg_sb_id M 20⟩
  · have e0 : cg_wA (M 20) c 0 = true := decide_eq_true h33
    refine cr_iload_n (pc := 36) C dX4_writableReplica_36 rfl ?_
    refine cr_ireturn (pc := 37) C X dX4_writableReplica_37 ?_
    exact ⟨by unfold cg_wr3; simp [*], cg_sb_id M 20⟩
set_option maxRecDepth 100000 in
set_option maxHeartbeats 4000000 in
theorem sm_writableReplica0 {M : cg_M} {x : Int32} (h : ¬ cg_in x 4) : cg_D yX4_writableReplica wsX4_writableReplica rmX4_writableReplica [.inr (.inr (4, 0, 0, 0)), .inl (x)] M (some (.inl (-2))) (cg_erm M 0) := by
  refine cg_S_of (cc := cX4_writableReplica) (maxL := 3) (ret := (some .int)) (ls0 := [some (.inr (.inr (4, 0, 0, 0))), some (.inl (x)), none]) RX4 rfl (by decide) rfl rfl (Nat.le_of_ble_eq_true rfl) (fun E C X => ?_)
  refine cr_iload_n (pc := 0) C dX4_writableReplica_0 rfl ?_
  refine cr_dS (pc := 1) C (sm_isClient0 h) rfl gX4_writableReplica_X4_isClient rfl dX4_writableReplica_1 hsX4_isClient rfl ⟨rfl, rfl, Nat.le_of_ble_eq_true rfl, Nat.le_of_ble_eq_true rfl⟩ (Nat.le_of_ble_eq_true rfl) rfl ?_
  refine cr_if_ne_f (pc := 4) (tgt := 14) C dX4_writableReplica_4 (by decide) (by decide) ?_
  refine cr_aload_n (pc := 7) C dX4_writableReplica_7 rfl ?_
  refine cr_bipush (pc := 8) (v := (-2)) C dX4_writableReplica_8 (by decide) ?_
  refine cr_dV (pc := 10) C (sm_error (e := 0) (by decide) (by decide)) rfl gX4_writableReplica_X4_error rfl dX4_writableReplica_10 (by first | rfl | assumption | (simp [cg_ok]; omega)) rfl hvX4_error rfl ⟨rfl, rfl, Nat.le_of_ble_eq_true rfl, Nat.le_of_ble_eq_true rfl⟩ (Nat.le_of_ble_eq_true rfl) rfl ?_
  refine cr_ireturn (pc := 13) C X dX4_writableReplica_13 ?_
  exact ⟨rfl, rfl⟩
theorem cg_bit1 : ∀ s, s < 16 → ∀ m, m < 4 → Nat.testBit s m = true → ((nI s >>> (nI m &&& 31)) &&& nI 1) = nI 1 := by decide +kernel
theorem cg_bit0 : ∀ s, s < 16 → ∀ m, m < 4 → Nat.testBit s m = false → ¬ ((nI s >>> (nI m &&& 31)) &&& nI 1) = nI 1 := by decide +kernel
theorem cg_in_ge {x : Int32} {n : Nat} (h : cg_in x n) (hn : n < 2147483648) : nI 0 ≤ x := by
  obtain ⟨k, hk, rfl⟩ := h
  exact nI_le (by omega) (by omega)
set_option maxRecDepth 100000 in
set_option maxHeartbeats 4000000 in
theorem sm_cvB {M : cg_M} {P : Nat → Int32} {s p : Nat} (hs : s < 16) (hp : p + 3 ≤ 345) (hI : cg_I P) : cg_D yX4_isCoveredBy wsX4_isCoveredBy rmX4_isCoveredBy [.inr (.inr (4, 0, 0, 0)), .inl (nI s), .inl (nI p)] (cg_sb M 20 P) (some (.inl (cg_b (cg_cs P s p)))) (cg_sb M 20 P) := by
  refine cg_S_of (cc := cX4_isCoveredBy) (maxL := 8) (ret := (some .boolean)) (ls0 := [some (.inr (.inr (4, 0, 0, 0))), some (.inl (nI s)), some (.inl (nI p)), none, none, none, none, none]) RX4 rfl (by decide) rfl rfl (Nat.le_of_ble_eq_true rfl) (fun E C X => ?_)
  have hcnt : ∀ r, r < 3 → ∀ o, o < 3 → cg_in (P (3 * r + o)) 61 := fun r hr o ho => by obtain ⟨n, g1, -, g3, -, -⟩ := hI; exact cg_in_le (g3 r hr o ho) (by have := g1.1; omega)
  have hin : ∀ (o : Nat) (x3 : Int32), o < 3 → (∀ z7, cg_W E (cg_sb M 20 P) 73 [some (.inr (.inr (4, 0, 0, 0))), some (.inl (nI s)), some (.inl (nI p)), some (.inl x3), some (.inl (nI o)), some (.inl (cg_gc P s o)), some (.inl (nI 3)), z7] []) → ∀ z7, cg_W E (cg_sb M 20 P) 17 [some (.inr (.inr (4, 0, 0, 0))), some (.inl (nI s)), some (.inl (nI p)), some (.inl x3), some (.inl (nI o)), some (.inl (nI 0)), some (.inl (nI 0)), z7] [] := by
    intro o x3 ho KK
    have hK3 : ∀ (a : Int32) (z7 : Option cg_V), cg_in a 61 → a = cg_gc P s o → cg_W E (cg_sb M 20 P) 17 [some (.inr (.inr (4, 0, 0, 0))), some (.inl (nI s)), some (.inl (nI p)), some (.inl x3), some (.inl (nI o)), some (.inl a), some (.inl (nI 3)), z7] [] := by
      intro a z7 hia ha
      have ha : a = cg_gc P s o := ha
      subst ha
      refine cr_iload (pc := 17) C dX4_isCoveredBy_17 rfl ?_
      refine cr_iconst (pc := 19) (v := nI 3) C dX4_isCoveredBy_19 (by decide) ?_
      refine cr_icmp_ge_t (pc := 20) (tgt := 73) C dX4_isCoveredBy_20 (by decide) (by decide) ?_
      exact KK z7
    have hK2 : ∀ (a : Int32) (z7 : Option cg_V), cg_in a 61 → (cg_g1 P s o 2 a) = cg_gc P s o → cg_W E (cg_sb M 20 P) 17 [some (.inr (.inr (4, 0, 0, 0))), some (.inl (nI s)), some (.inl (nI p)), some (.inl x3), some (.inl (nI o)), some (.inl a), some (.inl (nI 2)), z7] [] := by
      intro a z7 hia ha
      cases hb : Nat.testBit s 2
      · refine cr_iload (pc := 17) C dX4_isCoveredBy_17 rfl ?_
        refine cr_iconst (pc := 19) (v := nI 3) C dX4_isCoveredBy_19 (by decide) ?_
        refine cr_icmp_ge_f (pc := 20) (tgt := 73) C dX4_isCoveredBy_20 (by decide) (by decide) ?_
        refine cr_iload_n (pc := 23) C dX4_isCoveredBy_23 rfl ?_
        refine cr_iload (pc := 24) C dX4_isCoveredBy_24 rfl ?_
        refine cr_ishr (pc := 26) C dX4_isCoveredBy_26 ?_
        refine cr_iconst (pc := 27) (v := nI 1) C dX4_isCoveredBy_27 (by decide) ?_
        refine cr_iand (pc := 28) C dX4_isCoveredBy_28 ?_
        refine cr_iconst (pc := 29) (v := nI 1) C dX4_isCoveredBy_29 (by decide) ?_
        refine cr_icmp_ne_t (pc := 30) (tgt := 48) C dX4_isCoveredBy_30 (by decide) (cg_bit0 s hs 2 (by decide) hb) ?_
        refine cr_iconst (pc := 48) (v := nI 0) C dX4_isCoveredBy_48 (by decide) ?_
        refine cr_istore7 (pc := 49) C dX4_isCoveredBy_49 (by decide) rfl ?_
        refine cr_iload (pc := 51) C dX4_isCoveredBy_51 rfl ?_
        refine cr_iload (pc := 53) C dX4_isCoveredBy_53 rfl ?_
        refine cr_icmp_le_t (pc := 55) (tgt := 63) C dX4_isCoveredBy_55 (by decide) (cg_in_ge hia (by decide)) ?_
        refine cr_iload (pc := 63) C dX4_isCoveredBy_63 rfl ?_
        refine cr_istore5 (pc := 65) C dX4_isCoveredBy_65 (by decide) rfl ?_
        refine cr_iinc6 (pc := 67) (v := nI 3) C dX4_isCoveredBy_67 (by decide) (by decide) rfl ?_
        refine cr_goto (pc := 70) (tgt := 17) C dX4_isCoveredBy_70 (by decide) ?_
        exact hK3 a _ hia (by rw [← ha]; simp [cg_g1, hb])
      · by_cases hle : P (3 * 2 + o) ≤ a
        · refine cr_iload (pc := 17) C dX4_isCoveredBy_17 rfl ?_
          refine cr_iconst (pc := 19) (v := nI 3) C dX4_isCoveredBy_19 (by decide) ?_
          refine cr_icmp_ge_f (pc := 20) (tgt := 73) C dX4_isCoveredBy_20 (by decide) (by decide) ?_
          refine cr_iload_n (pc := 23) C dX4_isCoveredBy_23 rfl ?_
          refine cr_iload (pc := 24) C dX4_isCoveredBy_24 rfl ?_
          refine cr_ishr (pc := 26) C dX4_isCoveredBy_26 ?_
          refine cr_iconst (pc := 27) (v := nI 1) C dX4_isCoveredBy_27 (by decide) ?_
          refine cr_iand (pc := 28) C dX4_isCoveredBy_28 ?_
          refine cr_iconst (pc := 29) (v := nI 1) C dX4_isCoveredBy_29 (by decide) ?_
          refine cr_icmp_ne_f (pc := 30) (tgt := 48) C dX4_isCoveredBy_30 (by decide) (cg_bit1 s hs 2 (by decide) hb) ?_
          refine cr_aload_n (pc := 33) C dX4_isCoveredBy_33 rfl ?_
          refine cr_getr (pc := 34) (c := 4) (k := 0) C (by first | rfl | assumption | (simp [cg_ok]; omega)) rfl (by decide) rfl inX4_isCoveredBy_X4 flX4_isCoveredBy_7 dX4_isCoveredBy_34 ?_
          refine cr_iconst (pc := 37) (v := nI 3) C dX4_isCoveredBy_37 (by decide) ?_
          refine cr_iload (pc := 38) C dX4_isCoveredBy_38 rfl ?_
          refine cr_imul_n (pc := 40) C dX4_isCoveredBy_40 ?_
          refine cr_iload (pc := 41) C dX4_isCoveredBy_41 rfl ?_
          refine cr_iadd_n (pc := 43) C dX4_isCoveredBy_43 ?_
          refine cr_iaload (pc := 44) C rfl (by first | rfl | assumption | (simp [cg_ok]; omega)) (by omega) (by first | decide | omega) dX4_isCoveredBy_44 ?_
          rw [cg_sb_s]
          refine cr_goto (pc := 45) (tgt := 49) C dX4_isCoveredBy_45 (by decide) ?_
          refine cr_istore7 (pc := 49) C dX4_isCoveredBy_49 (by decide) rfl ?_
          refine cr_iload (pc := 51) C dX4_isCoveredBy_51 rfl ?_
          refine cr_iload (pc := 53) C dX4_isCoveredBy_53 rfl ?_
          refine cr_icmp_le_t (pc := 55) (tgt := 63) C dX4_isCoveredBy_55 (by decide) hle ?_
          refine cr_iload (pc := 63) C dX4_isCoveredBy_63 rfl ?_
          refine cr_istore5 (pc := 65) C dX4_isCoveredBy_65 (by decide) rfl ?_
          refine cr_iinc6 (pc := 67) (v := nI 3) C dX4_isCoveredBy_67 (by decide) (by decide) rfl ?_
          refine cr_goto (pc := 70) (tgt := 17) C dX4_isCoveredBy_70 (by decide) ?_
          exact hK3 a _ hia (by rw [← ha, show cg_g1 P s o 2 a = a by unfold cg_g1; rw [if_pos hb, ← cg_mx_le hle]])
        · refine cr_iload (pc := 17) C dX4_isCoveredBy_17 rfl ?_
          refine cr_iconst (pc := 19) (v := nI 3) C dX4_isCoveredBy_19 (by decide) ?_
          refine cr_icmp_ge_f (pc := 20) (tgt := 73) C dX4_isCoveredBy_20 (by decide) (by decide) ?_
          refine cr_iload_n (pc := 23) C dX4_isCoveredBy_23 rfl ?_
          refine cr_iload (pc := 24) C dX4_isCoveredBy_24 rfl ?_
          refine cr_ishr (pc := 26) C dX4_isCoveredBy_26 ?_
          refine cr_iconst (pc := 27) (v := nI 1) C dX4_isCoveredBy_27 (by decide) ?_
          refine cr_iand (pc := 28) C dX4_isCoveredBy_28 ?_
          refine cr_iconst (pc := 29) (v := nI 1) C dX4_isCoveredBy_29 (by decide) ?_
          refine cr_icmp_ne_f (pc := 30) (tgt := 48) C dX4_isCoveredBy_30 (by decide) (cg_bit1 s hs 2 (by decide) hb) ?_
          refine cr_aload_n (pc := 33) C dX4_isCoveredBy_33 rfl ?_
          refine cr_getr (pc := 34) (c := 4) (k := 0) C (by first | rfl | assumption | (simp [cg_ok]; omega)) rfl (by decide) rfl inX4_isCoveredBy_X4 flX4_isCoveredBy_7 dX4_isCoveredBy_34 ?_
          refine cr_iconst (pc := 37) (v := nI 3) C dX4_isCoveredBy_37 (by decide) ?_
          refine cr_iload (pc := 38) C dX4_isCoveredBy_38 rfl ?_
          refine cr_imul_n (pc := 40) C dX4_isCoveredBy_40 ?_
          refine cr_iload (pc := 41) C dX4_isCoveredBy_41 rfl ?_
          refine cr_iadd_n (pc := 43) C dX4_isCoveredBy_43 ?_
          refine cr_iaload (pc := 44) C rfl (by first | rfl | assumption | (simp [cg_ok]; omega)) (by omega) (by first | decide | omega) dX4_isCoveredBy_44 ?_
          rw [cg_sb_s]
          refine cr_goto (pc := 45) (tgt := 49) C dX4_isCoveredBy_45 (by decide) ?_
          refine cr_istore7 (pc := 49) C dX4_isCoveredBy_49 (by decide) rfl ?_
          refine cr_iload (pc := 51) C dX4_isCoveredBy_51 rfl ?_
          refine cr_iload (pc := 53) C dX4_isCoveredBy_53 rfl ?_
          refine cr_icmp_le_f (pc := 55) (tgt := 63) C dX4_isCoveredBy_55 (by decide) hle ?_
          refine cr_iload (pc := 58) C dX4_isCoveredBy_58 rfl ?_
          refine cr_goto (pc := 60) (tgt := 65) C dX4_isCoveredBy_60 (by decide) ?_
          refine cr_istore5 (pc := 65) C dX4_isCoveredBy_65 (by decide) rfl ?_
          refine cr_iinc6 (pc := 67) (v := nI 3) C dX4_isCoveredBy_67 (by decide) (by decide) rfl ?_
          refine cr_goto (pc := 70) (tgt := 17) C dX4_isCoveredBy_70 (by decide) ?_
          exact hK3 _ _ (hcnt 2 (by decide) o ho) (by rw [← ha, show cg_g1 P s o 2 a = P (3 * 2 + o) by unfold cg_g1; rw [if_pos hb, ← cg_mx_gt hle]])
    have hK1 : ∀ (a : Int32) (z7 : Option cg_V), cg_in a 61 → (cg_g1 P s o 2 (cg_g1 P s o 1 a)) = cg_gc P s o → cg_W E (cg_sb M 20 P) 17 [some (.inr (.inr (4, 0, 0, 0))), some (.inl (nI s)), some (.inl (nI p)), some (.inl x3), some (.inl (nI o)), some (.inl a), some (.inl (nI 1)), z7] [] := by
      intro a z7 hia ha
      cases hb : Nat.testBit s 1
      · refine cr_iload (pc := 17) C dX4_isCoveredBy_17 rfl ?_
        refine cr_iconst (pc := 19) (v := nI 3) C dX4_isCoveredBy_19 (by decide) ?_
        refine cr_icmp_ge_f (pc := 20) (tgt := 73) C dX4_isCoveredBy_20 (by decide) (by decide) ?_
        refine cr_iload_n (pc := 23) C dX4_isCoveredBy_23 rfl ?_
        refine cr_iload (pc := 24) C dX4_isCoveredBy_24 rfl ?_
        refine cr_ishr (pc := 26) C dX4_isCoveredBy_26 ?_
        refine cr_iconst (pc := 27) (v := nI 1) C dX4_isCoveredBy_27 (by decide) ?_
        refine cr_iand (pc := 28) C dX4_isCoveredBy_28 ?_
        refine cr_iconst (pc := 29) (v := nI 1) C dX4_isCoveredBy_29 (by decide) ?_
        refine cr_icmp_ne_t (pc := 30) (tgt := 48) C dX4_isCoveredBy_30 (by decide) (cg_bit0 s hs 1 (by decide) hb) ?_
        refine cr_iconst (pc := 48) (v := nI 0) C dX4_isCoveredBy_48 (by decide) ?_
        refine cr_istore7 (pc := 49) C dX4_isCoveredBy_49 (by decide) rfl ?_
        refine cr_iload (pc := 51) C dX4_isCoveredBy_51 rfl ?_
        refine cr_iload (pc := 53) C dX4_isCoveredBy_53 rfl ?_
        refine cr_icmp_le_t (pc := 55) (tgt := 63) C dX4_isCoveredBy_55 (by decide) (cg_in_ge hia (by decide)) ?_
        refine cr_iload (pc := 63) C dX4_isCoveredBy_63 rfl ?_
        refine cr_istore5 (pc := 65) C dX4_isCoveredBy_65 (by decide) rfl ?_
        refine cr_iinc6 (pc := 67) (v := nI 2) C dX4_isCoveredBy_67 (by decide) (by decide) rfl ?_
        refine cr_goto (pc := 70) (tgt := 17) C dX4_isCoveredBy_70 (by decide) ?_
        exact hK2 a _ hia (by rw [← ha]; simp [cg_g1, hb])
      · by_cases hle : P (3 * 1 + o) ≤ a
        · refine cr_iload (pc := 17) C dX4_isCoveredBy_17 rfl ?_
          refine cr_iconst (pc := 19) (v := nI 3) C dX4_isCoveredBy_19 (by decide) ?_
          refine cr_icmp_ge_f (pc := 20) (tgt := 73) C dX4_isCoveredBy_20 (by decide) (by decide) ?_
          refine cr_iload_n (pc := 23) C dX4_isCoveredBy_23 rfl ?_
          refine cr_iload (pc := 24) C dX4_isCoveredBy_24 rfl ?_
          refine cr_ishr (pc := 26) C dX4_isCoveredBy_26 ?_
          refine cr_iconst (pc := 27) (v := nI 1) C dX4_isCoveredBy_27 (by decide) ?_
          refine cr_iand (pc := 28) C dX4_isCoveredBy_28 ?_
          refine cr_iconst (pc := 29) (v := nI 1) C dX4_isCoveredBy_29 (by decide) ?_
          refine cr_icmp_ne_f (pc := 30) (tgt := 48) C dX4_isCoveredBy_30 (by decide) (cg_bit1 s hs 1 (by decide) hb) ?_
          refine cr_aload_n (pc := 33) C dX4_isCoveredBy_33 rfl ?_
          refine cr_getr (pc := 34) (c := 4) (k := 0) C (by first | rfl | assumption | (simp [cg_ok]; omega)) rfl (by decide) rfl inX4_isCoveredBy_X4 flX4_isCoveredBy_7 dX4_isCoveredBy_34 ?_
          refine cr_iconst (pc := 37) (v := nI 3) C dX4_isCoveredBy_37 (by decide) ?_
          refine cr_iload (pc := 38) C dX4_isCoveredBy_38 rfl ?_
          refine cr_imul_n (pc := 40) C dX4_isCoveredBy_40 ?_
          refine cr_iload (pc := 41) C dX4_isCoveredBy_41 rfl ?_
          refine cr_iadd_n (pc := 43) C dX4_isCoveredBy_43 ?_
          refine cr_iaload (pc := 44) C rfl (by first | rfl | assumption | (simp [cg_ok]; omega)) (by omega) (by first | decide | omega) dX4_isCoveredBy_44 ?_
          rw [cg_sb_s]
          refine cr_goto (pc := 45) (tgt := 49) C dX4_isCoveredBy_45 (by decide) ?_
          refine cr_istore7 (pc := 49) C dX4_isCoveredBy_49 (by decide) rfl ?_
          refine cr_iload (pc := 51) C dX4_isCoveredBy_51 rfl ?_
          refine cr_iload (pc := 53) C dX4_isCoveredBy_53 rfl ?_
          refine cr_icmp_le_t (pc := 55) (tgt := 63) C dX4_isCoveredBy_55 (by decide) hle ?_
          refine cr_iload (pc := 63) C dX4_isCoveredBy_63 rfl ?_
          refine cr_istore5 (pc := 65) C dX4_isCoveredBy_65 (by decide) rfl ?_
          refine cr_iinc6 (pc := 67) (v := nI 2) C dX4_isCoveredBy_67 (by decide) (by decide) rfl ?_
          refine cr_goto (pc := 70) (tgt := 17) C dX4_isCoveredBy_70 (by decide) ?_
          exact hK2 a _ hia (by rw [← ha, show cg_g1 P s o 1 a = a by unfold cg_g1; rw [if_pos hb, ← cg_mx_le hle]])
        · refine cr_iload (pc := 17) C dX4_isCoveredBy_17 rfl ?_
          refine cr_iconst (pc := 19) (v := nI 3) C dX4_isCoveredBy_19 (by decide) ?_
          refine cr_icmp_ge_f (pc := 20) (tgt := 73) C dX4_isCoveredBy_20 (by decide) (by decide) ?_
          refine cr_iload_n (pc := 23) C dX4_isCoveredBy_23 rfl ?_
          refine cr_iload (pc := 24) C dX4_isCoveredBy_24 rfl ?_
          refine cr_ishr (pc := 26) C dX4_isCoveredBy_26 ?_
          refine cr_iconst (pc := 27) (v := nI 1) C dX4_isCoveredBy_27 (by decide) ?_
          refine cr_iand (pc := 28) C dX4_isCoveredBy_28 ?_
          refine cr_iconst (pc := 29) (v := nI 1) C dX4_isCoveredBy_29 (by decide) ?_
          refine cr_icmp_ne_f (pc := 30) (tgt := 48) C dX4_isCoveredBy_30 (by decide) (cg_bit1 s hs 1 (by decide) hb) ?_
          refine cr_aload_n (pc := 33) C dX4_isCoveredBy_33 rfl ?_
          refine cr_getr (pc := 34) (c := 4) (k := 0) C (by first | rfl | assumption | (simp [cg_ok]; omega)) rfl (by decide) rfl inX4_isCoveredBy_X4 flX4_isCoveredBy_7 dX4_isCoveredBy_34 ?_
          refine cr_iconst (pc := 37) (v := nI 3) C dX4_isCoveredBy_37 (by decide) ?_
          refine cr_iload (pc := 38) C dX4_isCoveredBy_38 rfl ?_
          refine cr_imul_n (pc := 40) C dX4_isCoveredBy_40 ?_
          refine cr_iload (pc := 41) C dX4_isCoveredBy_41 rfl ?_
          refine cr_iadd_n (pc := 43) C dX4_isCoveredBy_43 ?_
          refine cr_iaload (pc := 44) C rfl (by first | rfl | assumption | (simp [cg_ok]; omega)) (by omega) (by first | decide | omega) dX4_isCoveredBy_44 ?_
          rw [cg_sb_s]
          refine cr_goto (pc := 45) (tgt := 49) C dX4_isCoveredBy_45 (by decide) ?_
          refine cr_istore7 (pc := 49) C dX4_isCoveredBy_49 (by decide) rfl ?_
          refine cr_iload (pc := 51) C dX4_isCoveredBy_51 rfl ?_
          refine cr_iload (pc := 53) C dX4_isCoveredBy_53 rfl ?_
          refine cr_icmp_le_f (pc := 55) (tgt := 63) C dX4_isCoveredBy_55 (by decide) hle ?_
          refine cr_iload (pc := 58) C dX4_isCoveredBy_58 rfl ?_
          refine cr_goto (pc := 60) (tgt := 65) C dX4_isCoveredBy_60 (by decide) ?_
          refine cr_istore5 (pc := 65) C dX4_isCoveredBy_65 (by decide) rfl ?_
          refine cr_iinc6 (pc := 67) (v := nI 2) C dX4_isCoveredBy_67 (by decide) (by decide) rfl ?_
          refine cr_goto (pc := 70) (tgt := 17) C dX4_isCoveredBy_70 (by decide) ?_
          exact hK2 _ _ (hcnt 1 (by decide) o ho) (by rw [← ha, show cg_g1 P s o 1 a = P (3 * 1 + o) by unfold cg_g1; rw [if_pos hb, ← cg_mx_gt hle]])
    have hK0 : ∀ (a : Int32) (z7 : Option cg_V), cg_in a 61 → (cg_g1 P s o 2 (cg_g1 P s o 1 (cg_g1 P s o 0 a))) = cg_gc P s o → cg_W E (cg_sb M 20 P) 17 [some (.inr (.inr (4, 0, 0, 0))), some (.inl (nI s)), some (.inl (nI p)), some (.inl x3), some (.inl (nI o)), some (.inl a), some (.inl (nI 0)), z7] [] := by
      intro a z7 hia ha
      cases hb : Nat.testBit s 0
      · refine cr_iload (pc := 17) C dX4_isCoveredBy_17 rfl ?_
        refine cr_iconst (pc := 19) (v := nI 3) C dX4_isCoveredBy_19 (by decide) ?_
        refine cr_icmp_ge_f (pc := 20) (tgt := 73) C dX4_isCoveredBy_20 (by decide) (by decide) ?_
        refine cr_iload_n (pc := 23) C dX4_isCoveredBy_23 rfl ?_
        refine cr_iload (pc := 24) C dX4_isCoveredBy_24 rfl ?_
        refine cr_ishr (pc := 26) C dX4_isCoveredBy_26 ?_
        refine cr_iconst (pc := 27) (v := nI 1) C dX4_isCoveredBy_27 (by decide) ?_
        refine cr_iand (pc := 28) C dX4_isCoveredBy_28 ?_
        refine cr_iconst (pc := 29) (v := nI 1) C dX4_isCoveredBy_29 (by decide) ?_
        refine cr_icmp_ne_t (pc := 30) (tgt := 48) C dX4_isCoveredBy_30 (by decide) (cg_bit0 s hs 0 (by decide) hb) ?_
        refine cr_iconst (pc := 48) (v := nI 0) C dX4_isCoveredBy_48 (by decide) ?_
        refine cr_istore7 (pc := 49) C dX4_isCoveredBy_49 (by decide) rfl ?_
        refine cr_iload (pc := 51) C dX4_isCoveredBy_51 rfl ?_
        refine cr_iload (pc := 53) C dX4_isCoveredBy_53 rfl ?_
        refine cr_icmp_le_t (pc := 55) (tgt := 63) C dX4_isCoveredBy_55 (by decide) (cg_in_ge hia (by decide)) ?_
        refine cr_iload (pc := 63) C dX4_isCoveredBy_63 rfl ?_
        refine cr_istore5 (pc := 65) C dX4_isCoveredBy_65 (by decide) rfl ?_
        refine cr_iinc6 (pc := 67) (v := nI 1) C dX4_isCoveredBy_67 (by decide) (by decide) rfl ?_
        refine cr_goto (pc := 70) (tgt := 17) C dX4_isCoveredBy_70 (by decide) ?_
        exact hK1 a _ hia (by rw [← ha]; simp [cg_g1, hb])
      · by_cases hle : P (3 * 0 + o) ≤ a
        · refine cr_iload (pc := 17) C dX4_isCoveredBy_17 rfl ?_
          refine cr_iconst (pc := 19) (v := nI 3) C dX4_isCoveredBy_19 (by decide) ?_
          refine cr_icmp_ge_f (pc := 20) (tgt := 73) C dX4_isCoveredBy_20 (by decide) (by decide) ?_
          refine cr_iload_n (pc := 23) C dX4_isCoveredBy_23 rfl ?_
          refine cr_iload (pc := 24) C dX4_isCoveredBy_24 rfl ?_
          refine cr_ishr (pc := 26) C dX4_isCoveredBy_26 ?_
          refine cr_iconst (pc := 27) (v := nI 1) C dX4_isCoveredBy_27 (by decide) ?_
          refine cr_iand (pc := 28) C dX4_isCoveredBy_28 ?_
          refine cr_iconst (pc := 29) (v := nI 1) C dX4_isCoveredBy_29 (by decide) ?_
          refine cr_icmp_ne_f (pc := 30) (tgt := 48) C dX4_isCoveredBy_30 (by decide) (cg_bit1 s hs 0 (by decide) hb) ?_
          refine cr_aload_n (pc := 33) C dX4_isCoveredBy_33 rfl ?_
          refine cr_getr (pc := 34) (c := 4) (k := 0) C (by first | rfl | assumption | (simp [cg_ok]; omega)) rfl (by decide) rfl inX4_isCoveredBy_X4 flX4_isCoveredBy_7 dX4_isCoveredBy_34 ?_
          refine cr_iconst (pc := 37) (v := nI 3) C dX4_isCoveredBy_37 (by decide) ?_
          refine cr_iload (pc := 38) C dX4_isCoveredBy_38 rfl ?_
          refine cr_imul_n (pc := 40) C dX4_isCoveredBy_40 ?_
          refine cr_iload (pc := 41) C dX4_isCoveredBy_41 rfl ?_
          refine cr_iadd_n (pc := 43) C dX4_isCoveredBy_43 ?_
          refine cr_iaload (pc := 44) C rfl (by first | rfl | assumption | (simp [cg_ok]; omega)) (by omega) (by first | decide | omega) dX4_isCoveredBy_44 ?_
          rw [cg_sb_s]
          refine cr_goto (pc := 45) (tgt := 49) C dX4_isCoveredBy_45 (by decide) ?_
          refine cr_istore7 (pc := 49) C dX4_isCoveredBy_49 (by decide) rfl ?_
          refine cr_iload (pc := 51) C dX4_isCoveredBy_51 rfl ?_
          refine cr_iload (pc := 53) C dX4_isCoveredBy_53 rfl ?_
          refine cr_icmp_le_t (pc := 55) (tgt := 63) C dX4_isCoveredBy_55 (by decide) hle ?_
          refine cr_iload (pc := 63) C dX4_isCoveredBy_63 rfl ?_
          refine cr_istore5 (pc := 65) C dX4_isCoveredBy_65 (by decide) rfl ?_
          refine cr_iinc6 (pc := 67) (v := nI 1) C dX4_isCoveredBy_67 (by decide) (by decide) rfl ?_
          refine cr_goto (pc := 70) (tgt := 17) C dX4_isCoveredBy_70 (by decide) ?_
          exact hK1 a _ hia (by rw [← ha, show cg_g1 P s o 0 a = a by unfold cg_g1; rw [if_pos hb, ← cg_mx_le hle]])
        · refine cr_iload (pc := 17) C dX4_isCoveredBy_17 rfl ?_
          refine cr_iconst (pc := 19) (v := nI 3) C dX4_isCoveredBy_19 (by decide) ?_
          refine cr_icmp_ge_f (pc := 20) (tgt := 73) C dX4_isCoveredBy_20 (by decide) (by decide) ?_
          refine cr_iload_n (pc := 23) C dX4_isCoveredBy_23 rfl ?_
          refine cr_iload (pc := 24) C dX4_isCoveredBy_24 rfl ?_
          refine cr_ishr (pc := 26) C dX4_isCoveredBy_26 ?_
          refine cr_iconst (pc := 27) (v := nI 1) C dX4_isCoveredBy_27 (by decide) ?_
          refine cr_iand (pc := 28) C dX4_isCoveredBy_28 ?_
          refine cr_iconst (pc := 29) (v := nI 1) C dX4_isCoveredBy_29 (by decide) ?_
          refine cr_icmp_ne_f (pc := 30) (tgt := 48) C dX4_isCoveredBy_30 (by decide) (cg_bit1 s hs 0 (by decide) hb) ?_
          refine cr_aload_n (pc := 33) C dX4_isCoveredBy_33 rfl ?_
          refine cr_getr (pc := 34) (c := 4) (k := 0) C (by first | rfl | assumption | (simp [cg_ok]; omega)) rfl (by decide) rfl inX4_isCoveredBy_X4 flX4_isCoveredBy_7 dX4_isCoveredBy_34 ?_
          refine cr_iconst (pc := 37) (v := nI 3) C dX4_isCoveredBy_37 (by decide) ?_
          refine cr_iload (pc := 38) C dX4_isCoveredBy_38 rfl ?_
          refine cr_imul_n (pc := 40) C dX4_isCoveredBy_40 ?_
          refine cr_iload (pc := 41) C dX4_isCoveredBy_41 rfl ?_
          refine cr_iadd_n (pc := 43) C dX4_isCoveredBy_43 ?_
          refine cr_iaload (pc := 44) C rfl (by first | rfl | assumption | (simp [cg_ok]; omega)) (by omega) (by first | decide | omega) dX4_isCoveredBy_44 ?_
          rw [cg_sb_s]
          refine cr_goto (pc := 45) (tgt := 49) C dX4_isCoveredBy_45 (by decide) ?_
          refine cr_istore7 (pc := 49) C dX4_isCoveredBy_49 (by decide) rfl ?_
          refine cr_iload (pc := 51) C dX4_isCoveredBy_51 rfl ?_
          refine cr_iload (pc := 53) C dX4_isCoveredBy_53 rfl ?_
          refine cr_icmp_le_f (pc := 55) (tgt := 63) C dX4_isCoveredBy_55 (by decide) hle ?_
          refine cr_iload (pc := 58) C dX4_isCoveredBy_58 rfl ?_
          refine cr_goto (pc := 60) (tgt := 65) C dX4_isCoveredBy_60 (by decide) ?_
          refine cr_istore5 (pc := 65) C dX4_isCoveredBy_65 (by decide) rfl ?_
          refine cr_iinc6 (pc := 67) (v := nI 1) C dX4_isCoveredBy_67 (by decide) (by decide) rfl ?_
          refine cr_goto (pc := 70) (tgt := 17) C dX4_isCoveredBy_70 (by decide) ?_
          exact hK1 _ _ (hcnt 0 (by decide) o ho) (by rw [← ha, show cg_g1 P s o 0 a = P (3 * 0 + o) by unfold cg_g1; rw [if_pos hb, ← cg_mx_gt hle]])
    exact fun z7 => hK0 (nI 0) z7 ⟨0, by decide, rfl⟩ rfl
  refine cr_iconst (pc := 0) (v := nI 1) C dX4_isCoveredBy_0 (by decide) ?_
  refine cr_istore_n3 (pc := 1) C dX4_isCoveredBy_1 (by decide) rfl ?_
  refine cr_iconst (pc := 2) (v := nI 0) C dX4_isCoveredBy_2 (by decide) ?_
  refine cr_istore4 (pc := 3) C dX4_isCoveredBy_3 (by decide) rfl ?_
  refine cr_iload (pc := 5) C dX4_isCoveredBy_5 rfl ?_
  refine cr_iconst (pc := 7) (v := nI 3) C dX4_isCoveredBy_7 (by decide) ?_
  refine cr_icmp_ge_f (pc := 8) (tgt := 103) C dX4_isCoveredBy_8 (by decide) (by decide) ?_
  refine cr_iconst (pc := 11) (v := nI 0) C dX4_isCoveredBy_11 (by decide) ?_
  refine cr_istore5 (pc := 12) C dX4_isCoveredBy_12 (by decide) rfl ?_
  refine cr_iconst (pc := 14) (v := nI 0) C dX4_isCoveredBy_14 (by decide) ?_
  refine cr_istore6 (pc := 15) C dX4_isCoveredBy_15 (by decide) rfl ?_
  refine hin 0 _ (by decide) (fun z7 => ?_) _
  refine cr_iload_n (pc := 73) C dX4_isCoveredBy_73 rfl ?_
  refine cr_if_eq_f (pc := 74) (tgt := 95) C dX4_isCoveredBy_74 (by decide) (by decide) ?_
  refine cr_aload_n (pc := 77) C dX4_isCoveredBy_77 rfl ?_
  refine cr_getr (pc := 78) (c := 4) (k := 0) C (by first | rfl | assumption | (simp [cg_ok]; omega)) rfl (by decide) rfl inX4_isCoveredBy_X4 flX4_isCoveredBy_7 dX4_isCoveredBy_78 ?_
  refine cr_iload_n (pc := 81) C dX4_isCoveredBy_81 rfl ?_
  refine cr_iload (pc := 82) C dX4_isCoveredBy_82 rfl ?_
  refine cr_iadd_n (pc := 84) C dX4_isCoveredBy_84 ?_
  refine cr_iaload (pc := 85) C rfl (by first | rfl | assumption | (simp [cg_ok]; omega)) (by omega) (by first | decide | omega) dX4_isCoveredBy_85 ?_
  rw [cg_sb_s]
  refine cr_iload (pc := 86) C dX4_isCoveredBy_86 rfl ?_
  refine cr_icmp_gt (pc := 88) (tgt := 95) C dX4_isCoveredBy_88 (by decide) (fun h88 => ?_) (fun h88 => ?_)
  · have g0 : decide (P p ≤ cg_gc P s 0) = false := decide_eq_false (Int32.not_le.mpr h88)
    refine cr_iconst (pc := 95) (v := nI 0) C dX4_isCoveredBy_95 (by decide) ?_
    refine cr_istore_n3 (pc := 96) C dX4_isCoveredBy_96 (by decide) rfl ?_
    refine cr_iinc4 (pc := 97) (v := nI 1) C dX4_isCoveredBy_97 (by decide) (by decide) rfl ?_
    refine cr_goto (pc := 100) (tgt := 5) C dX4_isCoveredBy_100 (by decide) ?_
    refine cr_iload (pc := 5) C dX4_isCoveredBy_5 rfl ?_
    refine cr_iconst (pc := 7) (v := nI 3) C dX4_isCoveredBy_7 (by decide) ?_
    refine cr_icmp_ge_f (pc := 8) (tgt := 103) C dX4_isCoveredBy_8 (by decide) (by decide) ?_
    refine cr_iconst (pc := 11) (v := nI 0) C dX4_isCoveredBy_11 (by decide) ?_
    refine cr_istore5 (pc := 12) C dX4_isCoveredBy_12 (by decide) rfl ?_
    refine cr_iconst (pc := 14) (v := nI 0) C dX4_isCoveredBy_14 (by decide) ?_
    refine cr_istore6 (pc := 15) C dX4_isCoveredBy_15 (by decide) rfl ?_
    refine hin 1 _ (by decide) (fun z7 => ?_) _
    refine cr_iload_n (pc := 73) C dX4_isCoveredBy_73 rfl ?_
    refine cr_if_eq_t (pc := 74) (tgt := 95) C dX4_isCoveredBy_74 (by decide) (by decide) ?_
    refine cr_iconst (pc := 95) (v := nI 0) C dX4_isCoveredBy_95 (by decide) ?_
    refine cr_istore_n3 (pc := 96) C dX4_isCoveredBy_96 (by decide) rfl ?_
    refine cr_iinc4 (pc := 97) (v := nI 2) C dX4_isCoveredBy_97 (by decide) (by decide) rfl ?_
    refine cr_goto (pc := 100) (tgt := 5) C dX4_isCoveredBy_100 (by decide) ?_
    refine cr_iload (pc := 5) C dX4_isCoveredBy_5 rfl ?_
    refine cr_iconst (pc := 7) (v := nI 3) C dX4_isCoveredBy_7 (by decide) ?_
    refine cr_icmp_ge_f (pc := 8) (tgt := 103) C dX4_isCoveredBy_8 (by decide) (by decide) ?_
    refine cr_iconst (pc := 11) (v := nI 0) C dX4_isCoveredBy_11 (by decide) ?_
    refine cr_istore5 (pc := 12) C dX4_isCoveredBy_12 (by decide) rfl ?_
    refine cr_iconst (pc := 14) (v := nI 0) C dX4_isCoveredBy_14 (by decide) ?_
    refine cr_istore6 (pc := 15) C dX4_isCoveredBy_15 (by decide) rfl ?_
    refine hin 2 _ (by decide) (fun z7 => ?_) _
    refine cr_iload_n (pc := 73) C dX4_isCoveredBy_73 rfl ?_
    refine cr_if_eq_t (pc := 74) (tgt := 95) C dX4_isCoveredBy_74 (by decide) (by decide) ?_
    refine cr_iconst (pc := 95) (v := nI 0) C dX4_isCoveredBy_95 (by decide) ?_
    refine cr_istore_n3 (pc := 96) C dX4_isCoveredBy_96 (by decide) rfl ?_
    refine cr_iinc4 (pc := 97) (v := nI 3) C dX4_isCoveredBy_97 (by decide) (by decide) rfl ?_
    refine cr_goto (pc := 100) (tgt := 5) C dX4_isCoveredBy_100 (by decide) ?_
    refine cr_iload (pc := 5) C dX4_isCoveredBy_5 rfl ?_
    refine cr_iconst (pc := 7) (v := nI 3) C dX4_isCoveredBy_7 (by decide) ?_
    refine cr_icmp_ge_t (pc := 8) (tgt := 103) C dX4_isCoveredBy_8 (by decide) (by decide) ?_
    refine cr_iload_n (pc := 103) C dX4_isCoveredBy_103 rfl ?_
    refine cr_zreturn (pc := 104) C X dX4_isCoveredBy_104 (by first | exact Or.inr rfl | exact Or.inl rfl | assumption) ?_
    have hz : cg_cs P s p = false := by unfold cg_cs; simp only [*, decide_true, decide_false, Bool.false_and, Bool.and_false, Bool.and_self, Bool.true_and, Bool.and_true]
    exact ⟨by rw [hz]; rfl, rfl⟩
  · have g0 : decide (P p ≤ cg_gc P s 0) = true := decide_eq_true (Int32.not_lt.mp h88)
    refine cr_iconst (pc := 91) (v := nI 1) C dX4_isCoveredBy_91 (by decide) ?_
    refine cr_goto (pc := 92) (tgt := 96) C dX4_isCoveredBy_92 (by decide) ?_
    refine cr_istore_n3 (pc := 96) C dX4_isCoveredBy_96 (by decide) rfl ?_
    refine cr_iinc4 (pc := 97) (v := nI 1) C dX4_isCoveredBy_97 (by decide) (by decide) rfl ?_
    refine cr_goto (pc := 100) (tgt := 5) C dX4_isCoveredBy_100 (by decide) ?_
    refine cr_iload (pc := 5) C dX4_isCoveredBy_5 rfl ?_
    refine cr_iconst (pc := 7) (v := nI 3) C dX4_isCoveredBy_7 (by decide) ?_
    refine cr_icmp_ge_f (pc := 8) (tgt := 103) C dX4_isCoveredBy_8 (by decide) (by decide) ?_
    refine cr_iconst (pc := 11) (v := nI 0) C dX4_isCoveredBy_11 (by decide) ?_
    refine cr_istore5 (pc := 12) C dX4_isCoveredBy_12 (by decide) rfl ?_
    refine cr_iconst (pc := 14) (v := nI 0) C dX4_isCoveredBy_14 (by decide) ?_
    refine cr_istore6 (pc := 15) C dX4_isCoveredBy_15 (by decide) rfl ?_
    refine hin 1 _ (by decide) (fun z7 => ?_) _
    refine cr_iload_n (pc := 73) C dX4_isCoveredBy_73 rfl ?_
    refine cr_if_eq_f (pc := 74) (tgt := 95) C dX4_isCoveredBy_74 (by decide) (by decide) ?_
    refine cr_aload_n (pc := 77) C dX4_isCoveredBy_77 rfl ?_
    refine cr_getr (pc := 78) (c := 4) (k := 0) C (by first | rfl | assumption | (simp [cg_ok]; omega)) rfl (by decide) rfl inX4_isCoveredBy_X4 flX4_isCoveredBy_7 dX4_isCoveredBy_78 ?_
    refine cr_iload_n (pc := 81) C dX4_isCoveredBy_81 rfl ?_
    refine cr_iload (pc := 82) C dX4_isCoveredBy_82 rfl ?_
    refine cr_iadd_n (pc := 84) C dX4_isCoveredBy_84 ?_
    refine cr_iaload (pc := 85) C rfl (by first | rfl | assumption | (simp [cg_ok]; omega)) (by omega) (by first | decide | omega) dX4_isCoveredBy_85 ?_
    rw [cg_sb_s]
    refine cr_iload (pc := 86) C dX4_isCoveredBy_86 rfl ?_
    refine cr_icmp_gt (pc := 88) (tgt := 95) C dX4_isCoveredBy_88 (by decide) (fun h88 => ?_) (fun h88 => ?_)
    · have g1 : decide (P (p + 1) ≤ cg_gc P s 1) = false := decide_eq_false (Int32.not_le.mpr h88)
      refine cr_iconst (pc := 95) (v := nI 0) C dX4_isCoveredBy_95 (by decide) ?_
      refine cr_istore_n3 (pc := 96) C dX4_isCoveredBy_96 (by decide) rfl ?_
      refine cr_iinc4 (pc := 97) (v := nI 2) C dX4_isCoveredBy_97 (by decide) (by decide) rfl ?_
      refine cr_goto (pc := 100) (tgt := 5) C dX4_isCoveredBy_100 (by decide) ?_
      refine cr_iload (pc := 5) C dX4_isCoveredBy_5 rfl ?_
      refine cr_iconst (pc := 7) (v := nI 3) C dX4_isCoveredBy_7 (by decide) ?_
      refine cr_icmp_ge_f (pc := 8) (tgt := 103) C dX4_isCoveredBy_8 (by decide) (by decide) ?_
      refine cr_iconst (pc := 11) (v := nI 0) C dX4_isCoveredBy_11 (by decide) ?_
      refine cr_istore5 (pc := 12) C dX4_isCoveredBy_12 (by decide) rfl ?_
      refine cr_iconst (pc := 14) (v := nI 0) C dX4_isCoveredBy_14 (by decide) ?_
      refine cr_istore6 (pc := 15) C dX4_isCoveredBy_15 (by decide) rfl ?_
      refine hin 2 _ (by decide) (fun z7 => ?_) _
      refine cr_iload_n (pc := 73) C dX4_isCoveredBy_73 rfl ?_
      refine cr_if_eq_t (pc := 74) (tgt := 95) C dX4_isCoveredBy_74 (by decide) (by decide) ?_
      refine cr_iconst (pc := 95) (v := nI 0) C dX4_isCoveredBy_95 (by decide) ?_
      refine cr_istore_n3 (pc := 96) C dX4_isCoveredBy_96 (by decide) rfl ?_
      refine cr_iinc4 (pc := 97) (v := nI 3) C dX4_isCoveredBy_97 (by decide) (by decide) rfl ?_
      refine cr_goto (pc := 100) (tgt := 5) C dX4_isCoveredBy_100 (by decide) ?_
      refine cr_iload (pc := 5) C dX4_isCoveredBy_5 rfl ?_
      refine cr_iconst (pc := 7) (v := nI 3) C dX4_isCoveredBy_7 (by decide) ?_
      refine cr_icmp_ge_t (pc := 8) (tgt := 103) C dX4_isCoveredBy_8 (by decide) (by decide) ?_
      refine cr_iload_n (pc := 103) C dX4_isCoveredBy_103 rfl ?_
      refine cr_zreturn (pc := 104) C X dX4_isCoveredBy_104 (by first | exact Or.inr rfl | exact Or.inl rfl | assumption) ?_
      have hz : cg_cs P s p = false := by unfold cg_cs; simp only [*, decide_true, decide_false, Bool.false_and, Bool.and_false, Bool.and_self, Bool.true_and, Bool.and_true]
      exact ⟨by rw [hz]; rfl, rfl⟩
    · have g1 : decide (P (p + 1) ≤ cg_gc P s 1) = true := decide_eq_true (Int32.not_lt.mp h88)
      refine cr_iconst (pc := 91) (v := nI 1) C dX4_isCoveredBy_91 (by decide) ?_
      refine cr_goto (pc := 92) (tgt := 96) C dX4_isCoveredBy_92 (by decide) ?_
      refine cr_istore_n3 (pc := 96) C dX4_isCoveredBy_96 (by decide) rfl ?_
      refine cr_iinc4 (pc := 97) (v := nI 2) C dX4_isCoveredBy_97 (by decide) (by decide) rfl ?_
      refine cr_goto (pc := 100) (tgt := 5) C dX4_isCoveredBy_100 (by decide) ?_
      refine cr_iload (pc := 5) C dX4_isCoveredBy_5 rfl ?_
      refine cr_iconst (pc := 7) (v := nI 3) C dX4_isCoveredBy_7 (by decide) ?_
      refine cr_icmp_ge_f (pc := 8) (tgt := 103) C dX4_isCoveredBy_8 (by decide) (by decide) ?_
      refine cr_iconst (pc := 11) (v := nI 0) C dX4_isCoveredBy_11 (by decide) ?_
      refine cr_istore5 (pc := 12) C dX4_isCoveredBy_12 (by decide) rfl ?_
      refine cr_iconst (pc := 14) (v := nI 0) C dX4_isCoveredBy_14 (by decide) ?_
      refine cr_istore6 (pc := 15) C dX4_isCoveredBy_15 (by decide) rfl ?_
      refine hin 2 _ (by decide) (fun z7 => ?_) _
      refine cr_iload_n (pc := 73) C dX4_isCoveredBy_73 rfl ?_
      refine cr_if_eq_f (pc := 74) (tgt := 95) C dX4_isCoveredBy_74 (by decide) (by decide) ?_
      refine cr_aload_n (pc := 77) C dX4_isCoveredBy_77 rfl ?_
      refine cr_getr (pc := 78) (c := 4) (k := 0) C (by first | rfl | assumption | (simp [cg_ok]; omega)) rfl (by decide) rfl inX4_isCoveredBy_X4 flX4_isCoveredBy_7 dX4_isCoveredBy_78 ?_
      refine cr_iload_n (pc := 81) C dX4_isCoveredBy_81 rfl ?_
      refine cr_iload (pc := 82) C dX4_isCoveredBy_82 rfl ?_
      refine cr_iadd_n (pc := 84) C dX4_isCoveredBy_84 ?_
      refine cr_iaload (pc := 85) C rfl (by first | rfl | assumption | (simp [cg_ok]; omega)) (by omega) (by first | decide | omega) dX4_isCoveredBy_85 ?_
      rw [cg_sb_s]
      refine cr_iload (pc := 86) C dX4_isCoveredBy_86 rfl ?_
      refine cr_icmp_gt (pc := 88) (tgt := 95) C dX4_isCoveredBy_88 (by decide) (fun h88 => ?_) (fun h88 => ?_)
      · have g2 : decide (P (p + 2) ≤ cg_gc P s 2) = false := decide_eq_false (Int32.not_le.mpr h88)
        refine cr_iconst (pc := 95) (v := nI 0) C dX4_isCoveredBy_95 (by decide) ?_
        refine cr_istore_n3 (pc := 96) C dX4_isCoveredBy_96 (by decide) rfl ?_
        refine cr_iinc4 (pc := 97) (v := nI 3) C dX4_isCoveredBy_97 (by decide) (by decide) rfl ?_
        refine cr_goto (pc := 100) (tgt := 5) C dX4_isCoveredBy_100 (by decide) ?_
        refine cr_iload (pc := 5) C dX4_isCoveredBy_5 rfl ?_
        refine cr_iconst (pc := 7) (v := nI 3) C dX4_isCoveredBy_7 (by decide) ?_
        refine cr_icmp_ge_t (pc := 8) (tgt := 103) C dX4_isCoveredBy_8 (by decide) (by decide) ?_
        refine cr_iload_n (pc := 103) C dX4_isCoveredBy_103 rfl ?_
        refine cr_zreturn (pc := 104) C X dX4_isCoveredBy_104 (by first | exact Or.inr rfl | exact Or.inl rfl | assumption) ?_
        have hz : cg_cs P s p = false := by unfold cg_cs; simp only [*, decide_true, decide_false, Bool.false_and, Bool.and_false, Bool.and_self, Bool.true_and, Bool.and_true]
        exact ⟨by rw [hz]; rfl, rfl⟩
      · have g2 : decide (P (p + 2) ≤ cg_gc P s 2) = true := decide_eq_true (Int32.not_lt.mp h88)
        refine cr_iconst (pc := 91) (v := nI 1) C dX4_isCoveredBy_91 (by decide) ?_
        refine cr_goto (pc := 92) (tgt := 96) C dX4_isCoveredBy_92 (by decide) ?_
        refine cr_istore_n3 (pc := 96) C dX4_isCoveredBy_96 (by decide) rfl ?_
        refine cr_iinc4 (pc := 97) (v := nI 3) C dX4_isCoveredBy_97 (by decide) (by decide) rfl ?_
        refine cr_goto (pc := 100) (tgt := 5) C dX4_isCoveredBy_100 (by decide) ?_
        refine cr_iload (pc := 5) C dX4_isCoveredBy_5 rfl ?_
        refine cr_iconst (pc := 7) (v := nI 3) C dX4_isCoveredBy_7 (by decide) ?_
        refine cr_icmp_ge_t (pc := 8) (tgt := 103) C dX4_isCoveredBy_8 (by decide) (by decide) ?_
        refine cr_iload_n (pc := 103) C dX4_isCoveredBy_103 rfl ?_
        refine cr_zreturn (pc := 104) C X dX4_isCoveredBy_104 (by first | exact Or.inr rfl | exact Or.inl rfl | assumption) ?_
        have hz : cg_cs P s p = true := by unfold cg_cs; simp only [*, decide_true, decide_false, Bool.false_and, Bool.and_false, Bool.and_self, Bool.true_and, Bool.and_true]
        exact ⟨by rw [hz]; rfl, rfl⟩
theorem cg_rAt : ∀ g, g < 16 → ∀ b1 b2 : Bool, decide ((nI ((if b1 = true then 0 else 1) + (if b2 = true then 0 else 2)) &&& nI g) = 0) = ((decide ((nI g &&& nI 1) = 0) || b1) && (decide ((nI g &&& nI 2) = 0) || b2)) := by decide +kernel
theorem cg_rAq {P : Nat → Int32} {c s g : Nat} (hg : g < 16) (h : P (313 + 7 * c) = nI g) : cg_rA P c s = ((decide ((nI g &&& nI 1) = 0) || cg_cs P s (317 + 7 * c)) && (decide ((nI g &&& nI 2) = 0) || cg_cs P s (314 + 7 * c))) := by
  unfold cg_rA cg_uR
  rw [h]
  exact cg_rAt g hg _ _
set_option maxRecDepth 100000 in
set_option maxHeartbeats 4000000 in
theorem sm_rB {M : cg_M} {P : Nat → Int32} {c s : Nat} (hc : c < 4) (hs : s < 16) (hI : cg_I P) : cg_D yX4_isReadBy wsX4_isReadBy rmX4_isReadBy [.inr (.inr (4, 0, 0, 0)), .inl (nI c), .inl (nI s)] (cg_sb M 20 P) (some (.inl (cg_b (cg_rA P c s)))) ((cg_sb M 20 P)) := by
  obtain ⟨g, hg, hgs⟩ : cg_in (P (313 + 7 * c)) 16 := by obtain ⟨n, -, -, -, g4, -⟩ := hI; exact g4 c hc
  refine cg_S_of (cc := cX4_isReadBy) (maxL := 5) (ret := (some .boolean)) (ls0 := [some (.inr (.inr (4, 0, 0, 0))), some (.inl (nI c)), some (.inl (nI s)), none, none]) RX4 rfl (by decide) rfl rfl (Nat.le_of_ble_eq_true rfl) (fun E C X => ?_)
  refine cr_sipush (pc := 0) (v := nI 313) C dX4_isReadBy_0 (by decide) ?_
  refine cr_bipush (pc := 3) (v := nI 7) C dX4_isReadBy_3 (by decide) ?_
  refine cr_iload_n (pc := 5) C dX4_isReadBy_5 rfl ?_
  refine cr_imul_n (pc := 6) C dX4_isReadBy_6 ?_
  refine cr_iadd_n (pc := 7) C dX4_isReadBy_7 ?_
  refine cr_istore_n3 (pc := 8) C dX4_isReadBy_8 (by decide) rfl ?_
  refine cr_aload_n (pc := 9) C dX4_isReadBy_9 rfl ?_
  refine cr_iload_n (pc := 10) C dX4_isReadBy_10 rfl ?_
  refine cr_dV (pc := 11) C (sm_gs hc) rfl gX4_isReadBy_X4_guarantees rfl dX4_isReadBy_11 (by first | rfl | assumption | (simp [cg_ok]; omega)) rfl hvX4_guarantees rfl ⟨rfl, rfl, Nat.le_of_ble_eq_true rfl, Nat.le_of_ble_eq_true rfl⟩ (Nat.le_of_ble_eq_true rfl) rfl ?_
  rw [hgs]
  refine cr_istore4 (pc := 14) C dX4_isReadBy_14 (by decide) rfl ?_
  refine cr_iload (pc := 16) C dX4_isReadBy_16 rfl ?_
  refine cr_iconst (pc := 18) (v := nI 1) C dX4_isReadBy_18 (by decide) ?_
  refine cr_iand (pc := 19) C dX4_isReadBy_19 ?_
  refine cr_if_eq (pc := 20) (tgt := 34) C dX4_isReadBy_20 (by decide) (fun h20 => ?_) (fun h20 => ?_)
  · refine cr_iload (pc := 34) C dX4_isReadBy_34 rfl ?_
    refine cr_iconst (pc := 36) (v := nI 2) C dX4_isReadBy_36 (by decide) ?_
    refine cr_iand (pc := 37) C dX4_isReadBy_37 ?_
    refine cr_if_eq (pc := 38) (tgt := 52) C dX4_isReadBy_38 (by decide) (fun h38 => ?_) (fun h38 => ?_)
    · refine cr_iconst (pc := 52) (v := nI 1) C dX4_isReadBy_52 (by decide) ?_
      refine cr_goto (pc := 53) (tgt := 57) C dX4_isReadBy_53 (by decide) ?_
      refine cr_zreturn (pc := 57) C X dX4_isReadBy_57 (by first | exact Or.inr rfl | exact Or.inl rfl | assumption) ?_
      have hz : cg_rA P c s = true := by rw [cg_rAq hg hgs]; simp [*]
      exact ⟨by rw [hz]; rfl, rfl⟩
    · refine cr_aload_n (pc := 41) C dX4_isReadBy_41 rfl ?_
      refine cr_iload_n (pc := 42) C dX4_isReadBy_42 rfl ?_
      refine cr_iload_n (pc := 43) C dX4_isReadBy_43 rfl ?_
      refine cr_iconst (pc := 44) (v := nI 1) C dX4_isReadBy_44 (by decide) ?_
      refine cr_iadd_n (pc := 45) C dX4_isReadBy_45 ?_
      refine cr_dV (pc := 46) C (sm_cvB hs (by omega) hI) rfl gX4_isReadBy_X4_isCoveredBy rfl dX4_isReadBy_46 (by first | rfl | assumption | (simp [cg_ok]; omega)) rfl hvX4_isCoveredBy rfl ⟨rfl, rfl, Nat.le_of_ble_eq_true rfl, Nat.le_of_ble_eq_true rfl⟩ (Nat.le_of_ble_eq_true rfl) rfl ?_
      try rw [show 313 + 7 * c + 1 = 314 + 7 * c by omega]
      refine cr_if_eq (pc := 49) (tgt := 56) C dX4_isReadBy_49 (by decide) (fun h49 => ?_) (fun h49 => ?_)
      · have e2 := cg_bf h49
        refine cr_iconst (pc := 56) (v := nI 0) C dX4_isReadBy_56 (by decide) ?_
        refine cr_zreturn (pc := 57) C X dX4_isReadBy_57 (by first | exact Or.inr rfl | exact Or.inl rfl | assumption) ?_
        have hz : cg_rA P c s = false := by rw [cg_rAq hg hgs]; simp [*]
        exact ⟨by rw [hz]; rfl, rfl⟩
      · have e2 := cg_bt h49
        refine cr_iconst (pc := 52) (v := nI 1) C dX4_isReadBy_52 (by decide) ?_
        refine cr_goto (pc := 53) (tgt := 57) C dX4_isReadBy_53 (by decide) ?_
        refine cr_zreturn (pc := 57) C X dX4_isReadBy_57 (by first | exact Or.inr rfl | exact Or.inl rfl | assumption) ?_
        have hz : cg_rA P c s = true := by rw [cg_rAq hg hgs]; simp [*]
        exact ⟨by rw [hz]; rfl, rfl⟩
  · refine cr_aload_n (pc := 23) C dX4_isReadBy_23 rfl ?_
    refine cr_iload_n (pc := 24) C dX4_isReadBy_24 rfl ?_
    refine cr_iload_n (pc := 25) C dX4_isReadBy_25 rfl ?_
    refine cr_iconst (pc := 26) (v := nI 4) C dX4_isReadBy_26 (by decide) ?_
    refine cr_iadd_n (pc := 27) C dX4_isReadBy_27 ?_
    refine cr_dV (pc := 28) C (sm_cvB hs (by omega) hI) rfl gX4_isReadBy_X4_isCoveredBy rfl dX4_isReadBy_28 (by first | rfl | assumption | (simp [cg_ok]; omega)) rfl hvX4_isCoveredBy rfl ⟨rfl, rfl, Nat.le_of_ble_eq_true rfl, Nat.le_of_ble_eq_true rfl⟩ (Nat.le_of_ble_eq_true rfl) rfl ?_
    rw [show 313 + 7 * c + 4 = 317 + 7 * c by omega]
    refine cr_if_eq (pc := 31) (tgt := 56) C dX4_isReadBy_31 (by decide) (fun h31 => ?_) (fun h31 => ?_)
    · have e1 := cg_bf h31
      refine cr_iconst (pc := 56) (v := nI 0) C dX4_isReadBy_56 (by decide) ?_
      refine cr_zreturn (pc := 57) C X dX4_isReadBy_57 (by first | exact Or.inr rfl | exact Or.inl rfl | assumption) ?_
      have hz : cg_rA P c s = false := by rw [cg_rAq hg hgs]; simp [*]
      exact ⟨by rw [hz]; rfl, rfl⟩
    · have e1 := cg_bt h31
      refine cr_iload (pc := 34) C dX4_isReadBy_34 rfl ?_
      refine cr_iconst (pc := 36) (v := nI 2) C dX4_isReadBy_36 (by decide) ?_
      refine cr_iand (pc := 37) C dX4_isReadBy_37 ?_
      refine cr_if_eq (pc := 38) (tgt := 52) C dX4_isReadBy_38 (by decide) (fun h38 => ?_) (fun h38 => ?_)
      · refine cr_iconst (pc := 52) (v := nI 1) C dX4_isReadBy_52 (by decide) ?_
        refine cr_goto (pc := 53) (tgt := 57) C dX4_isReadBy_53 (by decide) ?_
        refine cr_zreturn (pc := 57) C X dX4_isReadBy_57 (by first | exact Or.inr rfl | exact Or.inl rfl | assumption) ?_
        have hz : cg_rA P c s = true := by rw [cg_rAq hg hgs]; simp [*]
        exact ⟨by rw [hz]; rfl, rfl⟩
      · refine cr_aload_n (pc := 41) C dX4_isReadBy_41 rfl ?_
        refine cr_iload_n (pc := 42) C dX4_isReadBy_42 rfl ?_
        refine cr_iload_n (pc := 43) C dX4_isReadBy_43 rfl ?_
        refine cr_iconst (pc := 44) (v := nI 1) C dX4_isReadBy_44 (by decide) ?_
        refine cr_iadd_n (pc := 45) C dX4_isReadBy_45 ?_
        refine cr_dV (pc := 46) C (sm_cvB hs (by omega) hI) rfl gX4_isReadBy_X4_isCoveredBy rfl dX4_isReadBy_46 (by first | rfl | assumption | (simp [cg_ok]; omega)) rfl hvX4_isCoveredBy rfl ⟨rfl, rfl, Nat.le_of_ble_eq_true rfl, Nat.le_of_ble_eq_true rfl⟩ (Nat.le_of_ble_eq_true rfl) rfl ?_
        try rw [show 313 + 7 * c + 1 = 314 + 7 * c by omega]
        refine cr_if_eq (pc := 49) (tgt := 56) C dX4_isReadBy_49 (by decide) (fun h49 => ?_) (fun h49 => ?_)
        · have e2 := cg_bf h49
          refine cr_iconst (pc := 56) (v := nI 0) C dX4_isReadBy_56 (by decide) ?_
          refine cr_zreturn (pc := 57) C X dX4_isReadBy_57 (by first | exact Or.inr rfl | exact Or.inl rfl | assumption) ?_
          have hz : cg_rA P c s = false := by rw [cg_rAq hg hgs]; simp [*]
          exact ⟨by rw [hz]; rfl, rfl⟩
        · have e2 := cg_bt h49
          refine cr_iconst (pc := 52) (v := nI 1) C dX4_isReadBy_52 (by decide) ?_
          refine cr_goto (pc := 53) (tgt := 57) C dX4_isReadBy_53 (by decide) ?_
          refine cr_zreturn (pc := 57) C X dX4_isReadBy_57 (by first | exact Or.inr rfl | exact Or.inl rfl | assumption) ?_
          have hz : cg_rA P c s = true := by rw [cg_rAq hg hgs]; simp [*]
          exact ⟨by rw [hz]; rfl, rfl⟩
def cg_pc (s : Nat) : Nat := s % 2 + s / 2 % 2 + s / 4 % 2
theorem cg_pct : ∀ s, s < 8 → ((nI s &&& nI 1) + ((nI s >>> (nI 1 &&& 31)) &&& nI 1)) + ((nI s >>> (nI 2 &&& 31)) &&& nI 1) = nI (cg_pc s) := by decide +kernel
set_option maxRecDepth 100000 in
set_option maxHeartbeats 4000000 in
theorem sm_bits {M : cg_M} {s : Nat} (hs : s < 8) : cg_D yX4_bits wsX4_bits rmX4_bits [.inl (nI s)] M (some (.inl (nI (cg_pc s)))) (M) := by
  refine cg_S_of (cc := cX4_bits) (maxL := 1) (ret := (some .int)) (ls0 := [some (.inl (nI s))]) RX4 rfl (by decide) rfl rfl (Nat.le_of_ble_eq_true rfl) (fun E C X => ?_)
  refine cr_iload_n (pc := 0) C dX4_bits_0 rfl ?_
  refine cr_iconst (pc := 1) (v := nI 1) C dX4_bits_1 (by decide) ?_
  refine cr_iand (pc := 2) C dX4_bits_2 ?_
  refine cr_iload_n (pc := 3) C dX4_bits_3 rfl ?_
  refine cr_iconst (pc := 4) (v := nI 1) C dX4_bits_4 (by decide) ?_
  refine cr_ishr (pc := 5) C dX4_bits_5 ?_
  refine cr_iconst (pc := 6) (v := nI 1) C dX4_bits_6 (by decide) ?_
  refine cr_iand (pc := 7) C dX4_bits_7 ?_
  refine cr_iadd (pc := 8) C dX4_bits_8 ?_
  refine cr_iload_n (pc := 9) C dX4_bits_9 rfl ?_
  refine cr_iconst (pc := 10) (v := nI 2) C dX4_bits_10 (by decide) ?_
  refine cr_ishr (pc := 11) C dX4_bits_11 ?_
  refine cr_iconst (pc := 12) (v := nI 1) C dX4_bits_12 (by decide) ?_
  refine cr_iand (pc := 13) C dX4_bits_13 ?_
  refine cr_iadd (pc := 14) C dX4_bits_14 ?_
  refine cr_ireturn (pc := 15) C X dX4_bits_15 ?_
  exact ⟨by rw [cg_pct s hs], rfl⟩
set_option maxRecDepth 100000 in
set_option maxHeartbeats 4000000 in
theorem sm_syncsForRead1 {M : cg_M} {c r : Nat}  (hc : c < 4) (hr : r < 3) (hI : cg_I (M 20)) : cg_D yX4_syncsForRead wsX4_syncsForRead rmX4_syncsForRead [.inr (.inr (4, 0, 0, 0)), .inl (nI c), .inl (nI r)] M (some (.inl (cg_sf (M 20) c r))) (M) := by
  rcases (show r = 0 ∨ r = 1 ∨ r = 2 by omega) with rfl | rfl | rfl
  · refine cg_S_of (cc := cX4_syncsForRead) (maxL := 7) (ret := (some .int)) (ls0 := [some (.inr (.inr (4, 0, 0, 0))), some (.inl (nI c)), some (.inl (nI 0)), none, none, none, none]) RX4 rfl (by decide) rfl rfl (Nat.le_of_ble_eq_true rfl) (fun E C X => ?_)
    refine cr_iload_n (pc := 0) C dX4_syncsForRead_0 rfl ?_
    refine cr_dS (pc := 1) C (sm_isClient1 hc) rfl gX4_syncsForRead_X4_isClient rfl dX4_syncsForRead_1 hsX4_isClient rfl ⟨rfl, rfl, Nat.le_of_ble_eq_true rfl, Nat.le_of_ble_eq_true rfl⟩ (Nat.le_of_ble_eq_true rfl) rfl ?_
    refine cr_if_eq_f (pc := 4) (tgt := 14) C dX4_syncsForRead_4 (by decide) (by decide) ?_
    refine cr_iload_n (pc := 7) C dX4_syncsForRead_7 rfl ?_
    refine cr_dS (pc := 8) C (sm_isReplica1 (by decide)) rfl gX4_syncsForRead_X4_isReplica rfl dX4_syncsForRead_8 hsX4_isReplica rfl ⟨rfl, rfl, Nat.le_of_ble_eq_true rfl, Nat.le_of_ble_eq_true rfl⟩ (Nat.le_of_ble_eq_true rfl) rfl ?_
    refine cr_if_ne_t (pc := 11) (tgt := 21) C dX4_syncsForRead_11 (by decide) (by decide) ?_
    refine cr_mem (cg_sb_id M 20).symm ?_
    refine cr_iconst (pc := 21) (v := (-1)) C dX4_syncsForRead_21 (by decide) ?_
    refine cr_istore_n3 (pc := 22) C dX4_syncsForRead_22 (by decide) rfl ?_
    refine cr_iconst (pc := 23) (v := nI 0) C dX4_syncsForRead_23 (by decide) ?_
    refine cr_istore4 (pc := 24) C dX4_syncsForRead_24 (by decide) rfl ?_
    refine cr_iload (pc := 26) C dX4_syncsForRead_26 rfl ?_
    refine cr_bipush (pc := 28) (v := nI 8) C dX4_syncsForRead_28 (by decide) ?_
    refine cr_icmp_ge_f (pc := 30) (tgt := 110) C dX4_syncsForRead_30 (by decide) (by decide) ?_
    refine cr_iload (pc := 33) C dX4_syncsForRead_33 rfl ?_
    refine cr_iload_n (pc := 35) C dX4_syncsForRead_35 rfl ?_
    refine cr_ishr (pc := 36) C dX4_syncsForRead_36 ?_
    refine cr_iconst (pc := 37) (v := nI 1) C dX4_syncsForRead_37 (by decide) ?_
    refine cr_iand (pc := 38) C dX4_syncsForRead_38 ?_
    refine cr_if_ne_f (pc := 39) (tgt := 46) C dX4_syncsForRead_39 (by decide) (by decide) ?_
    refine cr_iconst (pc := 42) (v := nI 1) C dX4_syncsForRead_42 (by decide) ?_
    refine cr_goto (pc := 43) (tgt := 47) C dX4_syncsForRead_43 (by decide) ?_
    refine cr_istore5 (pc := 47) C dX4_syncsForRead_47 (by decide) rfl ?_
    refine cr_iload_n (pc := 49) C dX4_syncsForRead_49 rfl ?_
    refine cr_iconst (pc := 50) (v := (-1)) C dX4_syncsForRead_50 (by decide) ?_
    refine cr_icmp_eq_t (pc := 51) (tgt := 66) C dX4_syncsForRead_51 (by decide) (by decide) ?_
    refine cr_iconst (pc := 66) (v := nI 1) C dX4_syncsForRead_66 (by decide) ?_
    refine cr_goto (pc := 67) (tgt := 71) C dX4_syncsForRead_67 (by decide) ?_
    refine cr_istore6 (pc := 71) C dX4_syncsForRead_71 (by decide) rfl ?_
    refine cr_iload (pc := 73) C dX4_syncsForRead_73 rfl ?_
    refine cr_if_eq_f (pc := 75) (tgt := 102) C dX4_syncsForRead_75 (by decide) (by decide) ?_
    refine cr_iload (pc := 78) C dX4_syncsForRead_78 rfl ?_
    refine cr_if_eq_f (pc := 80) (tgt := 102) C dX4_syncsForRead_80 (by decide) (by decide) ?_
    refine cr_aload_n (pc := 83) C dX4_syncsForRead_83 rfl ?_
    refine cr_iload_n (pc := 84) C dX4_syncsForRead_84 rfl ?_
    refine cr_iload (pc := 85) C dX4_syncsForRead_85 rfl ?_
    refine cr_iconst (pc := 87) (v := nI 1) C dX4_syncsForRead_87 (by decide) ?_
    refine cr_iload_n (pc := 88) C dX4_syncsForRead_88 rfl ?_
    refine cr_ishl (pc := 89) C dX4_syncsForRead_89 ?_
    refine cr_ior (pc := 90) C dX4_syncsForRead_90 ?_
    refine cr_top (show nI 0 ||| nI 1 <<< (nI 0 &&& 31) = nI 1 by decide) ?_
    refine cr_dV (pc := 91) C (sm_rB hc (by decide) hI) rfl gX4_syncsForRead_X4_isReadBy rfl dX4_syncsForRead_91 (by first | rfl | assumption | (simp [cg_ok]; omega)) rfl hvX4_isReadBy rfl ⟨rfl, rfl, Nat.le_of_ble_eq_true rfl, Nat.le_of_ble_eq_true rfl⟩ (Nat.le_of_ble_eq_true rfl) rfl ?_
    refine cr_if_eq (pc := 94) (tgt := 102) C dX4_syncsForRead_94 (by decide) (fun h94 => ?_) (fun h94 => ?_)
    · have e0 := cg_bf h94
      refine cr_iload_n (pc := 102) C dX4_syncsForRead_102 rfl ?_
      refine cr_istore_n3 (pc := 103) C dX4_syncsForRead_103 (by decide) rfl ?_
      refine cr_iinc4 (pc := 104) (v := nI 1) C dX4_syncsForRead_104 (by decide) (by decide) rfl ?_
      refine cr_goto (pc := 107) (tgt := 26) C dX4_syncsForRead_107 (by decide) ?_
      refine cr_iload (pc := 26) C dX4_syncsForRead_26 rfl ?_
      refine cr_bipush (pc := 28) (v := nI 8) C dX4_syncsForRead_28 (by decide) ?_
      refine cr_icmp_ge_f (pc := 30) (tgt := 110) C dX4_syncsForRead_30 (by decide) (by decide) ?_
      refine cr_iload (pc := 33) C dX4_syncsForRead_33 rfl ?_
      refine cr_iload_n (pc := 35) C dX4_syncsForRead_35 rfl ?_
      refine cr_ishr (pc := 36) C dX4_syncsForRead_36 ?_
      refine cr_iconst (pc := 37) (v := nI 1) C dX4_syncsForRead_37 (by decide) ?_
      refine cr_iand (pc := 38) C dX4_syncsForRead_38 ?_
      refine cr_if_ne_t (pc := 39) (tgt := 46) C dX4_syncsForRead_39 (by decide) (by decide) ?_
      refine cr_iconst (pc := 46) (v := nI 0) C dX4_syncsForRead_46 (by decide) ?_
      refine cr_istore5 (pc := 47) C dX4_syncsForRead_47 (by decide) rfl ?_
      refine cr_iload_n (pc := 49) C dX4_syncsForRead_49 rfl ?_
      refine cr_iconst (pc := 50) (v := (-1)) C dX4_syncsForRead_50 (by decide) ?_
      refine cr_icmp_eq_t (pc := 51) (tgt := 66) C dX4_syncsForRead_51 (by decide) (by decide) ?_
      refine cr_iconst (pc := 66) (v := nI 1) C dX4_syncsForRead_66 (by decide) ?_
      refine cr_goto (pc := 67) (tgt := 71) C dX4_syncsForRead_67 (by decide) ?_
      refine cr_istore6 (pc := 71) C dX4_syncsForRead_71 (by decide) rfl ?_
      refine cr_iload (pc := 73) C dX4_syncsForRead_73 rfl ?_
      refine cr_if_eq_t (pc := 75) (tgt := 102) C dX4_syncsForRead_75 (by decide) (by decide) ?_
      refine cr_iload_n (pc := 102) C dX4_syncsForRead_102 rfl ?_
      refine cr_istore_n3 (pc := 103) C dX4_syncsForRead_103 (by decide) rfl ?_
      refine cr_iinc4 (pc := 104) (v := nI 2) C dX4_syncsForRead_104 (by decide) (by decide) rfl ?_
      refine cr_goto (pc := 107) (tgt := 26) C dX4_syncsForRead_107 (by decide) ?_
      refine cr_iload (pc := 26) C dX4_syncsForRead_26 rfl ?_
      refine cr_bipush (pc := 28) (v := nI 8) C dX4_syncsForRead_28 (by decide) ?_
      refine cr_icmp_ge_f (pc := 30) (tgt := 110) C dX4_syncsForRead_30 (by decide) (by decide) ?_
      refine cr_iload (pc := 33) C dX4_syncsForRead_33 rfl ?_
      refine cr_iload_n (pc := 35) C dX4_syncsForRead_35 rfl ?_
      refine cr_ishr (pc := 36) C dX4_syncsForRead_36 ?_
      refine cr_iconst (pc := 37) (v := nI 1) C dX4_syncsForRead_37 (by decide) ?_
      refine cr_iand (pc := 38) C dX4_syncsForRead_38 ?_
      refine cr_if_ne_f (pc := 39) (tgt := 46) C dX4_syncsForRead_39 (by decide) (by decide) ?_
      refine cr_iconst (pc := 42) (v := nI 1) C dX4_syncsForRead_42 (by decide) ?_
      refine cr_goto (pc := 43) (tgt := 47) C dX4_syncsForRead_43 (by decide) ?_
      refine cr_istore5 (pc := 47) C dX4_syncsForRead_47 (by decide) rfl ?_
      refine cr_iload_n (pc := 49) C dX4_syncsForRead_49 rfl ?_
      refine cr_iconst (pc := 50) (v := (-1)) C dX4_syncsForRead_50 (by decide) ?_
      refine cr_icmp_eq_t (pc := 51) (tgt := 66) C dX4_syncsForRead_51 (by decide) (by decide) ?_
      refine cr_iconst (pc := 66) (v := nI 1) C dX4_syncsForRead_66 (by decide) ?_
      refine cr_goto (pc := 67) (tgt := 71) C dX4_syncsForRead_67 (by decide) ?_
      refine cr_istore6 (pc := 71) C dX4_syncsForRead_71 (by decide) rfl ?_
      refine cr_iload (pc := 73) C dX4_syncsForRead_73 rfl ?_
      refine cr_if_eq_f (pc := 75) (tgt := 102) C dX4_syncsForRead_75 (by decide) (by decide) ?_
      refine cr_iload (pc := 78) C dX4_syncsForRead_78 rfl ?_
      refine cr_if_eq_f (pc := 80) (tgt := 102) C dX4_syncsForRead_80 (by decide) (by decide) ?_
      refine cr_aload_n (pc := 83) C dX4_syncsForRead_83 rfl ?_
      refine cr_iload_n (pc := 84) C dX4_syncsForRead_84 rfl ?_
      refine cr_iload (pc := 85) C dX4_syncsForRead_85 rfl ?_
      refine cr_iconst (pc := 87) (v := nI 1) C dX4_syncsForRead_87 (by decide) ?_
      refine cr_iload_n (pc := 88) C dX4_syncsForRead_88 rfl ?_
      refine cr_ishl (pc := 89) C dX4_syncsForRead_89 ?_
      refine cr_ior (pc := 90) C dX4_syncsForRead_90 ?_
      refine cr_top (show nI 2 ||| nI 1 <<< (nI 0 &&& 31) = nI 3 by decide) ?_
      refine cr_dV (pc := 91) C (sm_rB hc (by decide) hI) rfl gX4_syncsForRead_X4_isReadBy rfl dX4_syncsForRead_91 (by first | rfl | assumption | (simp [cg_ok]; omega)) rfl hvX4_isReadBy rfl ⟨rfl, rfl, Nat.le_of_ble_eq_true rfl, Nat.le_of_ble_eq_true rfl⟩ (Nat.le_of_ble_eq_true rfl) rfl ?_
      refine cr_if_eq (pc := 94) (tgt := 102) C dX4_syncsForRead_94 (by decide) (fun h94 => ?_) (fun h94 => ?_)
      · have e2 := cg_bf h94
        refine cr_iload_n (pc := 102) C dX4_syncsForRead_102 rfl ?_
        refine cr_istore_n3 (pc := 103) C dX4_syncsForRead_103 (by decide) rfl ?_
        refine cr_iinc4 (pc := 104) (v := nI 3) C dX4_syncsForRead_104 (by decide) (by decide) rfl ?_
        refine cr_goto (pc := 107) (tgt := 26) C dX4_syncsForRead_107 (by decide) ?_
        refine cr_iload (pc := 26) C dX4_syncsForRead_26 rfl ?_
        refine cr_bipush (pc := 28) (v := nI 8) C dX4_syncsForRead_28 (by decide) ?_
        refine cr_icmp_ge_f (pc := 30) (tgt := 110) C dX4_syncsForRead_30 (by decide) (by decide) ?_
        refine cr_iload (pc := 33) C dX4_syncsForRead_33 rfl ?_
        refine cr_iload_n (pc := 35) C dX4_syncsForRead_35 rfl ?_
        refine cr_ishr (pc := 36) C dX4_syncsForRead_36 ?_
        refine cr_iconst (pc := 37) (v := nI 1) C dX4_syncsForRead_37 (by decide) ?_
        refine cr_iand (pc := 38) C dX4_syncsForRead_38 ?_
        refine cr_if_ne_t (pc := 39) (tgt := 46) C dX4_syncsForRead_39 (by decide) (by decide) ?_
        refine cr_iconst (pc := 46) (v := nI 0) C dX4_syncsForRead_46 (by decide) ?_
        refine cr_istore5 (pc := 47) C dX4_syncsForRead_47 (by decide) rfl ?_
        refine cr_iload_n (pc := 49) C dX4_syncsForRead_49 rfl ?_
        refine cr_iconst (pc := 50) (v := (-1)) C dX4_syncsForRead_50 (by decide) ?_
        refine cr_icmp_eq_t (pc := 51) (tgt := 66) C dX4_syncsForRead_51 (by decide) (by decide) ?_
        refine cr_iconst (pc := 66) (v := nI 1) C dX4_syncsForRead_66 (by decide) ?_
        refine cr_goto (pc := 67) (tgt := 71) C dX4_syncsForRead_67 (by decide) ?_
        refine cr_istore6 (pc := 71) C dX4_syncsForRead_71 (by decide) rfl ?_
        refine cr_iload (pc := 73) C dX4_syncsForRead_73 rfl ?_
        refine cr_if_eq_t (pc := 75) (tgt := 102) C dX4_syncsForRead_75 (by decide) (by decide) ?_
        refine cr_iload_n (pc := 102) C dX4_syncsForRead_102 rfl ?_
        refine cr_istore_n3 (pc := 103) C dX4_syncsForRead_103 (by decide) rfl ?_
        refine cr_iinc4 (pc := 104) (v := nI 4) C dX4_syncsForRead_104 (by decide) (by decide) rfl ?_
        refine cr_goto (pc := 107) (tgt := 26) C dX4_syncsForRead_107 (by decide) ?_
        refine cr_iload (pc := 26) C dX4_syncsForRead_26 rfl ?_
        refine cr_bipush (pc := 28) (v := nI 8) C dX4_syncsForRead_28 (by decide) ?_
        refine cr_icmp_ge_f (pc := 30) (tgt := 110) C dX4_syncsForRead_30 (by decide) (by decide) ?_
        refine cr_iload (pc := 33) C dX4_syncsForRead_33 rfl ?_
        refine cr_iload_n (pc := 35) C dX4_syncsForRead_35 rfl ?_
        refine cr_ishr (pc := 36) C dX4_syncsForRead_36 ?_
        refine cr_iconst (pc := 37) (v := nI 1) C dX4_syncsForRead_37 (by decide) ?_
        refine cr_iand (pc := 38) C dX4_syncsForRead_38 ?_
        refine cr_if_ne_f (pc := 39) (tgt := 46) C dX4_syncsForRead_39 (by decide) (by decide) ?_
        refine cr_iconst (pc := 42) (v := nI 1) C dX4_syncsForRead_42 (by decide) ?_
        refine cr_goto (pc := 43) (tgt := 47) C dX4_syncsForRead_43 (by decide) ?_
        refine cr_istore5 (pc := 47) C dX4_syncsForRead_47 (by decide) rfl ?_
        refine cr_iload_n (pc := 49) C dX4_syncsForRead_49 rfl ?_
        refine cr_iconst (pc := 50) (v := (-1)) C dX4_syncsForRead_50 (by decide) ?_
        refine cr_icmp_eq_t (pc := 51) (tgt := 66) C dX4_syncsForRead_51 (by decide) (by decide) ?_
        refine cr_iconst (pc := 66) (v := nI 1) C dX4_syncsForRead_66 (by decide) ?_
        refine cr_goto (pc := 67) (tgt := 71) C dX4_syncsForRead_67 (by decide) ?_
        refine cr_istore6 (pc := 71) C dX4_syncsForRead_71 (by decide) rfl ?_
        refine cr_iload (pc := 73) C dX4_syncsForRead_73 rfl ?_
        refine cr_if_eq_f (pc := 75) (tgt := 102) C dX4_syncsForRead_75 (by decide) (by decide) ?_
        refine cr_iload (pc := 78) C dX4_syncsForRead_78 rfl ?_
        refine cr_if_eq_f (pc := 80) (tgt := 102) C dX4_syncsForRead_80 (by decide) (by decide) ?_
        refine cr_aload_n (pc := 83) C dX4_syncsForRead_83 rfl ?_
        refine cr_iload_n (pc := 84) C dX4_syncsForRead_84 rfl ?_
        refine cr_iload (pc := 85) C dX4_syncsForRead_85 rfl ?_
        refine cr_iconst (pc := 87) (v := nI 1) C dX4_syncsForRead_87 (by decide) ?_
        refine cr_iload_n (pc := 88) C dX4_syncsForRead_88 rfl ?_
        refine cr_ishl (pc := 89) C dX4_syncsForRead_89 ?_
        refine cr_ior (pc := 90) C dX4_syncsForRead_90 ?_
        refine cr_top (show nI 4 ||| nI 1 <<< (nI 0 &&& 31) = nI 5 by decide) ?_
        refine cr_dV (pc := 91) C (sm_rB hc (by decide) hI) rfl gX4_syncsForRead_X4_isReadBy rfl dX4_syncsForRead_91 (by first | rfl | assumption | (simp [cg_ok]; omega)) rfl hvX4_isReadBy rfl ⟨rfl, rfl, Nat.le_of_ble_eq_true rfl, Nat.le_of_ble_eq_true rfl⟩ (Nat.le_of_ble_eq_true rfl) rfl ?_
        refine cr_if_eq (pc := 94) (tgt := 102) C dX4_syncsForRead_94 (by decide) (fun h94 => ?_) (fun h94 => ?_)
        · have e4 := cg_bf h94
          refine cr_iload_n (pc := 102) C dX4_syncsForRead_102 rfl ?_
          refine cr_istore_n3 (pc := 103) C dX4_syncsForRead_103 (by decide) rfl ?_
          refine cr_iinc4 (pc := 104) (v := nI 5) C dX4_syncsForRead_104 (by decide) (by decide) rfl ?_
          refine cr_goto (pc := 107) (tgt := 26) C dX4_syncsForRead_107 (by decide) ?_
          refine cr_iload (pc := 26) C dX4_syncsForRead_26 rfl ?_
          refine cr_bipush (pc := 28) (v := nI 8) C dX4_syncsForRead_28 (by decide) ?_
          refine cr_icmp_ge_f (pc := 30) (tgt := 110) C dX4_syncsForRead_30 (by decide) (by decide) ?_
          refine cr_iload (pc := 33) C dX4_syncsForRead_33 rfl ?_
          refine cr_iload_n (pc := 35) C dX4_syncsForRead_35 rfl ?_
          refine cr_ishr (pc := 36) C dX4_syncsForRead_36 ?_
          refine cr_iconst (pc := 37) (v := nI 1) C dX4_syncsForRead_37 (by decide) ?_
          refine cr_iand (pc := 38) C dX4_syncsForRead_38 ?_
          refine cr_if_ne_t (pc := 39) (tgt := 46) C dX4_syncsForRead_39 (by decide) (by decide) ?_
          refine cr_iconst (pc := 46) (v := nI 0) C dX4_syncsForRead_46 (by decide) ?_
          refine cr_istore5 (pc := 47) C dX4_syncsForRead_47 (by decide) rfl ?_
          refine cr_iload_n (pc := 49) C dX4_syncsForRead_49 rfl ?_
          refine cr_iconst (pc := 50) (v := (-1)) C dX4_syncsForRead_50 (by decide) ?_
          refine cr_icmp_eq_t (pc := 51) (tgt := 66) C dX4_syncsForRead_51 (by decide) (by decide) ?_
          refine cr_iconst (pc := 66) (v := nI 1) C dX4_syncsForRead_66 (by decide) ?_
          refine cr_goto (pc := 67) (tgt := 71) C dX4_syncsForRead_67 (by decide) ?_
          refine cr_istore6 (pc := 71) C dX4_syncsForRead_71 (by decide) rfl ?_
          refine cr_iload (pc := 73) C dX4_syncsForRead_73 rfl ?_
          refine cr_if_eq_t (pc := 75) (tgt := 102) C dX4_syncsForRead_75 (by decide) (by decide) ?_
          refine cr_iload_n (pc := 102) C dX4_syncsForRead_102 rfl ?_
          refine cr_istore_n3 (pc := 103) C dX4_syncsForRead_103 (by decide) rfl ?_
          refine cr_iinc4 (pc := 104) (v := nI 6) C dX4_syncsForRead_104 (by decide) (by decide) rfl ?_
          refine cr_goto (pc := 107) (tgt := 26) C dX4_syncsForRead_107 (by decide) ?_
          refine cr_iload (pc := 26) C dX4_syncsForRead_26 rfl ?_
          refine cr_bipush (pc := 28) (v := nI 8) C dX4_syncsForRead_28 (by decide) ?_
          refine cr_icmp_ge_f (pc := 30) (tgt := 110) C dX4_syncsForRead_30 (by decide) (by decide) ?_
          refine cr_iload (pc := 33) C dX4_syncsForRead_33 rfl ?_
          refine cr_iload_n (pc := 35) C dX4_syncsForRead_35 rfl ?_
          refine cr_ishr (pc := 36) C dX4_syncsForRead_36 ?_
          refine cr_iconst (pc := 37) (v := nI 1) C dX4_syncsForRead_37 (by decide) ?_
          refine cr_iand (pc := 38) C dX4_syncsForRead_38 ?_
          refine cr_if_ne_f (pc := 39) (tgt := 46) C dX4_syncsForRead_39 (by decide) (by decide) ?_
          refine cr_iconst (pc := 42) (v := nI 1) C dX4_syncsForRead_42 (by decide) ?_
          refine cr_goto (pc := 43) (tgt := 47) C dX4_syncsForRead_43 (by decide) ?_
          refine cr_istore5 (pc := 47) C dX4_syncsForRead_47 (by decide) rfl ?_
          refine cr_iload_n (pc := 49) C dX4_syncsForRead_49 rfl ?_
          refine cr_iconst (pc := 50) (v := (-1)) C dX4_syncsForRead_50 (by decide) ?_
          refine cr_icmp_eq_t (pc := 51) (tgt := 66) C dX4_syncsForRead_51 (by decide) (by decide) ?_
          refine cr_iconst (pc := 66) (v := nI 1) C dX4_syncsForRead_66 (by decide) ?_
          refine cr_goto (pc := 67) (tgt := 71) C dX4_syncsForRead_67 (by decide) ?_
          refine cr_istore6 (pc := 71) C dX4_syncsForRead_71 (by decide) rfl ?_
          refine cr_iload (pc := 73) C dX4_syncsForRead_73 rfl ?_
          refine cr_if_eq_f (pc := 75) (tgt := 102) C dX4_syncsForRead_75 (by decide) (by decide) ?_
          refine cr_iload (pc := 78) C dX4_syncsForRead_78 rfl ?_
          refine cr_if_eq_f (pc := 80) (tgt := 102) C dX4_syncsForRead_80 (by decide) (by decide) ?_
          refine cr_aload_n (pc := 83) C dX4_syncsForRead_83 rfl ?_
          refine cr_iload_n (pc := 84) C dX4_syncsForRead_84 rfl ?_
          refine cr_iload (pc := 85) C dX4_syncsForRead_85 rfl ?_
          refine cr_iconst (pc := 87) (v := nI 1) C dX4_syncsForRead_87 (by decide) ?_
          refine cr_iload_n (pc := 88) C dX4_syncsForRead_88 rfl ?_
          refine cr_ishl (pc := 89) C dX4_syncsForRead_89 ?_
          refine cr_ior (pc := 90) C dX4_syncsForRead_90 ?_
          refine cr_top (show nI 6 ||| nI 1 <<< (nI 0 &&& 31) = nI 7 by decide) ?_
          refine cr_dV (pc := 91) C (sm_rB hc (by decide) hI) rfl gX4_syncsForRead_X4_isReadBy rfl dX4_syncsForRead_91 (by first | rfl | assumption | (simp [cg_ok]; omega)) rfl hvX4_isReadBy rfl ⟨rfl, rfl, Nat.le_of_ble_eq_true rfl, Nat.le_of_ble_eq_true rfl⟩ (Nat.le_of_ble_eq_true rfl) rfl ?_
          refine cr_if_eq (pc := 94) (tgt := 102) C dX4_syncsForRead_94 (by decide) (fun h94 => ?_) (fun h94 => ?_)
          · have e6 := cg_bf h94
            refine cr_iload_n (pc := 102) C dX4_syncsForRead_102 rfl ?_
            refine cr_istore_n3 (pc := 103) C dX4_syncsForRead_103 (by decide) rfl ?_
            refine cr_iinc4 (pc := 104) (v := nI 7) C dX4_syncsForRead_104 (by decide) (by decide) rfl ?_
            refine cr_goto (pc := 107) (tgt := 26) C dX4_syncsForRead_107 (by decide) ?_
            refine cr_iload (pc := 26) C dX4_syncsForRead_26 rfl ?_
            refine cr_bipush (pc := 28) (v := nI 8) C dX4_syncsForRead_28 (by decide) ?_
            refine cr_icmp_ge_f (pc := 30) (tgt := 110) C dX4_syncsForRead_30 (by decide) (by decide) ?_
            refine cr_iload (pc := 33) C dX4_syncsForRead_33 rfl ?_
            refine cr_iload_n (pc := 35) C dX4_syncsForRead_35 rfl ?_
            refine cr_ishr (pc := 36) C dX4_syncsForRead_36 ?_
            refine cr_iconst (pc := 37) (v := nI 1) C dX4_syncsForRead_37 (by decide) ?_
            refine cr_iand (pc := 38) C dX4_syncsForRead_38 ?_
            refine cr_if_ne_t (pc := 39) (tgt := 46) C dX4_syncsForRead_39 (by decide) (by decide) ?_
            refine cr_iconst (pc := 46) (v := nI 0) C dX4_syncsForRead_46 (by decide) ?_
            refine cr_istore5 (pc := 47) C dX4_syncsForRead_47 (by decide) rfl ?_
            refine cr_iload_n (pc := 49) C dX4_syncsForRead_49 rfl ?_
            refine cr_iconst (pc := 50) (v := (-1)) C dX4_syncsForRead_50 (by decide) ?_
            refine cr_icmp_eq_t (pc := 51) (tgt := 66) C dX4_syncsForRead_51 (by decide) (by decide) ?_
            refine cr_iconst (pc := 66) (v := nI 1) C dX4_syncsForRead_66 (by decide) ?_
            refine cr_goto (pc := 67) (tgt := 71) C dX4_syncsForRead_67 (by decide) ?_
            refine cr_istore6 (pc := 71) C dX4_syncsForRead_71 (by decide) rfl ?_
            refine cr_iload (pc := 73) C dX4_syncsForRead_73 rfl ?_
            refine cr_if_eq_t (pc := 75) (tgt := 102) C dX4_syncsForRead_75 (by decide) (by decide) ?_
            refine cr_iload_n (pc := 102) C dX4_syncsForRead_102 rfl ?_
            refine cr_istore_n3 (pc := 103) C dX4_syncsForRead_103 (by decide) rfl ?_
            refine cr_iinc4 (pc := 104) (v := nI 8) C dX4_syncsForRead_104 (by decide) (by decide) rfl ?_
            refine cr_goto (pc := 107) (tgt := 26) C dX4_syncsForRead_107 (by decide) ?_
            refine cr_iload (pc := 26) C dX4_syncsForRead_26 rfl ?_
            refine cr_bipush (pc := 28) (v := nI 8) C dX4_syncsForRead_28 (by decide) ?_
            refine cr_icmp_ge_t (pc := 30) (tgt := 110) C dX4_syncsForRead_30 (by decide) (by decide) ?_
            refine cr_iload_n (pc := 110) C dX4_syncsForRead_110 rfl ?_
            refine cr_ireturn (pc := 111) C X dX4_syncsForRead_111 ?_
            exact ⟨by unfold cg_sf cg_s4; simp [*], cg_sb_id M 20⟩
          · have e6 := cg_bt h94
            refine cr_iload (pc := 97) C dX4_syncsForRead_97 rfl ?_
            refine cr_goto (pc := 99) (tgt := 103) C dX4_syncsForRead_99 (by decide) ?_
            refine cr_istore_n3 (pc := 103) C dX4_syncsForRead_103 (by decide) rfl ?_
            refine cr_iinc4 (pc := 104) (v := nI 7) C dX4_syncsForRead_104 (by decide) (by decide) rfl ?_
            refine cr_goto (pc := 107) (tgt := 26) C dX4_syncsForRead_107 (by decide) ?_
            refine cr_iload (pc := 26) C dX4_syncsForRead_26 rfl ?_
            refine cr_bipush (pc := 28) (v := nI 8) C dX4_syncsForRead_28 (by decide) ?_
            refine cr_icmp_ge_f (pc := 30) (tgt := 110) C dX4_syncsForRead_30 (by decide) (by decide) ?_
            refine cr_iload (pc := 33) C dX4_syncsForRead_33 rfl ?_
            refine cr_iload_n (pc := 35) C dX4_syncsForRead_35 rfl ?_
            refine cr_ishr (pc := 36) C dX4_syncsForRead_36 ?_
            refine cr_iconst (pc := 37) (v := nI 1) C dX4_syncsForRead_37 (by decide) ?_
            refine cr_iand (pc := 38) C dX4_syncsForRead_38 ?_
            refine cr_if_ne_t (pc := 39) (tgt := 46) C dX4_syncsForRead_39 (by decide) (by decide) ?_
            refine cr_iconst (pc := 46) (v := nI 0) C dX4_syncsForRead_46 (by decide) ?_
            refine cr_istore5 (pc := 47) C dX4_syncsForRead_47 (by decide) rfl ?_
            refine cr_iload_n (pc := 49) C dX4_syncsForRead_49 rfl ?_
            refine cr_iconst (pc := 50) (v := (-1)) C dX4_syncsForRead_50 (by decide) ?_
            refine cr_icmp_eq_f (pc := 51) (tgt := 66) C dX4_syncsForRead_51 (by decide) (by decide) ?_
            refine cr_iload (pc := 54) C dX4_syncsForRead_54 rfl ?_
            refine cr_dS (pc := 56) C (sm_bits (by decide)) rfl gX4_syncsForRead_X4_bits rfl dX4_syncsForRead_56 hsX4_bits rfl ⟨rfl, rfl, Nat.le_of_ble_eq_true rfl, Nat.le_of_ble_eq_true rfl⟩ (Nat.le_of_ble_eq_true rfl) rfl ?_
            rw [show cg_pc 7 = 3 by decide]
            refine cr_iload_n (pc := 59) C dX4_syncsForRead_59 rfl ?_
            refine cr_dS (pc := 60) C (sm_bits (by decide)) rfl gX4_syncsForRead_X4_bits rfl dX4_syncsForRead_60 hsX4_bits rfl ⟨rfl, rfl, Nat.le_of_ble_eq_true rfl, Nat.le_of_ble_eq_true rfl⟩ (Nat.le_of_ble_eq_true rfl) rfl ?_
            rw [show cg_pc 6 = 2 by decide]
            refine cr_icmp_ge_t (pc := 63) (tgt := 70) C dX4_syncsForRead_63 (by decide) (by decide) ?_
            refine cr_iconst (pc := 70) (v := nI 0) C dX4_syncsForRead_70 (by decide) ?_
            refine cr_istore6 (pc := 71) C dX4_syncsForRead_71 (by decide) rfl ?_
            refine cr_iload (pc := 73) C dX4_syncsForRead_73 rfl ?_
            refine cr_if_eq_t (pc := 75) (tgt := 102) C dX4_syncsForRead_75 (by decide) (by decide) ?_
            refine cr_iload_n (pc := 102) C dX4_syncsForRead_102 rfl ?_
            refine cr_istore_n3 (pc := 103) C dX4_syncsForRead_103 (by decide) rfl ?_
            refine cr_iinc4 (pc := 104) (v := nI 8) C dX4_syncsForRead_104 (by decide) (by decide) rfl ?_
            refine cr_goto (pc := 107) (tgt := 26) C dX4_syncsForRead_107 (by decide) ?_
            refine cr_iload (pc := 26) C dX4_syncsForRead_26 rfl ?_
            refine cr_bipush (pc := 28) (v := nI 8) C dX4_syncsForRead_28 (by decide) ?_
            refine cr_icmp_ge_t (pc := 30) (tgt := 110) C dX4_syncsForRead_30 (by decide) (by decide) ?_
            refine cr_iload_n (pc := 110) C dX4_syncsForRead_110 rfl ?_
            refine cr_ireturn (pc := 111) C X dX4_syncsForRead_111 ?_
            exact ⟨by unfold cg_sf cg_s4; simp [*], cg_sb_id M 20⟩
        · have e4 := cg_bt h94
          refine cr_iload (pc := 97) C dX4_syncsForRead_97 rfl ?_
          refine cr_goto (pc := 99) (tgt := 103) C dX4_syncsForRead_99 (by decide) ?_
          refine cr_istore_n3 (pc := 103) C dX4_syncsForRead_103 (by decide) rfl ?_
          refine cr_iinc4 (pc := 104) (v := nI 5) C dX4_syncsForRead_104 (by decide) (by decide) rfl ?_
          refine cr_goto (pc := 107) (tgt := 26) C dX4_syncsForRead_107 (by decide) ?_
          refine cr_iload (pc := 26) C dX4_syncsForRead_26 rfl ?_
          refine cr_bipush (pc := 28) (v := nI 8) C dX4_syncsForRead_28 (by decide) ?_
          refine cr_icmp_ge_f (pc := 30) (tgt := 110) C dX4_syncsForRead_30 (by decide) (by decide) ?_
          refine cr_iload (pc := 33) C dX4_syncsForRead_33 rfl ?_
          refine cr_iload_n (pc := 35) C dX4_syncsForRead_35 rfl ?_
          refine cr_ishr (pc := 36) C dX4_syncsForRead_36 ?_
          refine cr_iconst (pc := 37) (v := nI 1) C dX4_syncsForRead_37 (by decide) ?_
          refine cr_iand (pc := 38) C dX4_syncsForRead_38 ?_
          refine cr_if_ne_t (pc := 39) (tgt := 46) C dX4_syncsForRead_39 (by decide) (by decide) ?_
          refine cr_iconst (pc := 46) (v := nI 0) C dX4_syncsForRead_46 (by decide) ?_
          refine cr_istore5 (pc := 47) C dX4_syncsForRead_47 (by decide) rfl ?_
          refine cr_iload_n (pc := 49) C dX4_syncsForRead_49 rfl ?_
          refine cr_iconst (pc := 50) (v := (-1)) C dX4_syncsForRead_50 (by decide) ?_
          refine cr_icmp_eq_f (pc := 51) (tgt := 66) C dX4_syncsForRead_51 (by decide) (by decide) ?_
          refine cr_iload (pc := 54) C dX4_syncsForRead_54 rfl ?_
          refine cr_dS (pc := 56) C (sm_bits (by decide)) rfl gX4_syncsForRead_X4_bits rfl dX4_syncsForRead_56 hsX4_bits rfl ⟨rfl, rfl, Nat.le_of_ble_eq_true rfl, Nat.le_of_ble_eq_true rfl⟩ (Nat.le_of_ble_eq_true rfl) rfl ?_
          rw [show cg_pc 5 = 2 by decide]
          refine cr_iload_n (pc := 59) C dX4_syncsForRead_59 rfl ?_
          refine cr_dS (pc := 60) C (sm_bits (by decide)) rfl gX4_syncsForRead_X4_bits rfl dX4_syncsForRead_60 hsX4_bits rfl ⟨rfl, rfl, Nat.le_of_ble_eq_true rfl, Nat.le_of_ble_eq_true rfl⟩ (Nat.le_of_ble_eq_true rfl) rfl ?_
          rw [show cg_pc 4 = 1 by decide]
          refine cr_icmp_ge_t (pc := 63) (tgt := 70) C dX4_syncsForRead_63 (by decide) (by decide) ?_
          refine cr_iconst (pc := 70) (v := nI 0) C dX4_syncsForRead_70 (by decide) ?_
          refine cr_istore6 (pc := 71) C dX4_syncsForRead_71 (by decide) rfl ?_
          refine cr_iload (pc := 73) C dX4_syncsForRead_73 rfl ?_
          refine cr_if_eq_t (pc := 75) (tgt := 102) C dX4_syncsForRead_75 (by decide) (by decide) ?_
          refine cr_iload_n (pc := 102) C dX4_syncsForRead_102 rfl ?_
          refine cr_istore_n3 (pc := 103) C dX4_syncsForRead_103 (by decide) rfl ?_
          refine cr_iinc4 (pc := 104) (v := nI 6) C dX4_syncsForRead_104 (by decide) (by decide) rfl ?_
          refine cr_goto (pc := 107) (tgt := 26) C dX4_syncsForRead_107 (by decide) ?_
          refine cr_iload (pc := 26) C dX4_syncsForRead_26 rfl ?_
          refine cr_bipush (pc := 28) (v := nI 8) C dX4_syncsForRead_28 (by decide) ?_
          refine cr_icmp_ge_f (pc := 30) (tgt := 110) C dX4_syncsForRead_30 (by decide) (by decide) ?_
          refine cr_iload (pc := 33) C dX4_syncsForRead_33 rfl ?_
          refine cr_iload_n (pc := 35) C dX4_syncsForRead_35 rfl ?_
          refine cr_ishr (pc := 36) C dX4_syncsForRead_36 ?_
          refine cr_iconst (pc := 37) (v := nI 1) C dX4_syncsForRead_37 (by decide) ?_
          refine cr_iand (pc := 38) C dX4_syncsForRead_38 ?_
          refine cr_if_ne_f (pc := 39) (tgt := 46) C dX4_syncsForRead_39 (by decide) (by decide) ?_
          refine cr_iconst (pc := 42) (v := nI 1) C dX4_syncsForRead_42 (by decide) ?_
          refine cr_goto (pc := 43) (tgt := 47) C dX4_syncsForRead_43 (by decide) ?_
          refine cr_istore5 (pc := 47) C dX4_syncsForRead_47 (by decide) rfl ?_
          refine cr_iload_n (pc := 49) C dX4_syncsForRead_49 rfl ?_
          refine cr_iconst (pc := 50) (v := (-1)) C dX4_syncsForRead_50 (by decide) ?_
          refine cr_icmp_eq_f (pc := 51) (tgt := 66) C dX4_syncsForRead_51 (by decide) (by decide) ?_
          refine cr_iload (pc := 54) C dX4_syncsForRead_54 rfl ?_
          refine cr_dS (pc := 56) C (sm_bits (by decide)) rfl gX4_syncsForRead_X4_bits rfl dX4_syncsForRead_56 hsX4_bits rfl ⟨rfl, rfl, Nat.le_of_ble_eq_true rfl, Nat.le_of_ble_eq_true rfl⟩ (Nat.le_of_ble_eq_true rfl) rfl ?_
          rw [show cg_pc 6 = 2 by decide]
          refine cr_iload_n (pc := 59) C dX4_syncsForRead_59 rfl ?_
          refine cr_dS (pc := 60) C (sm_bits (by decide)) rfl gX4_syncsForRead_X4_bits rfl dX4_syncsForRead_60 hsX4_bits rfl ⟨rfl, rfl, Nat.le_of_ble_eq_true rfl, Nat.le_of_ble_eq_true rfl⟩ (Nat.le_of_ble_eq_true rfl) rfl ?_
          rw [show cg_pc 4 = 1 by decide]
          refine cr_icmp_ge_t (pc := 63) (tgt := 70) C dX4_syncsForRead_63 (by decide) (by decide) ?_
          refine cr_iconst (pc := 70) (v := nI 0) C dX4_syncsForRead_70 (by decide) ?_
          refine cr_istore6 (pc := 71) C dX4_syncsForRead_71 (by decide) rfl ?_
          refine cr_iload (pc := 73) C dX4_syncsForRead_73 rfl ?_
          refine cr_if_eq_f (pc := 75) (tgt := 102) C dX4_syncsForRead_75 (by decide) (by decide) ?_
          refine cr_iload (pc := 78) C dX4_syncsForRead_78 rfl ?_
          refine cr_if_eq_t (pc := 80) (tgt := 102) C dX4_syncsForRead_80 (by decide) (by decide) ?_
          refine cr_iload_n (pc := 102) C dX4_syncsForRead_102 rfl ?_
          refine cr_istore_n3 (pc := 103) C dX4_syncsForRead_103 (by decide) rfl ?_
          refine cr_iinc4 (pc := 104) (v := nI 7) C dX4_syncsForRead_104 (by decide) (by decide) rfl ?_
          refine cr_goto (pc := 107) (tgt := 26) C dX4_syncsForRead_107 (by decide) ?_
          refine cr_iload (pc := 26) C dX4_syncsForRead_26 rfl ?_
          refine cr_bipush (pc := 28) (v := nI 8) C dX4_syncsForRead_28 (by decide) ?_
          refine cr_icmp_ge_f (pc := 30) (tgt := 110) C dX4_syncsForRead_30 (by decide) (by decide) ?_
          refine cr_iload (pc := 33) C dX4_syncsForRead_33 rfl ?_
          refine cr_iload_n (pc := 35) C dX4_syncsForRead_35 rfl ?_
          refine cr_ishr (pc := 36) C dX4_syncsForRead_36 ?_
          refine cr_iconst (pc := 37) (v := nI 1) C dX4_syncsForRead_37 (by decide) ?_
          refine cr_iand (pc := 38) C dX4_syncsForRead_38 ?_
          refine cr_if_ne_t (pc := 39) (tgt := 46) C dX4_syncsForRead_39 (by decide) (by decide) ?_
          refine cr_iconst (pc := 46) (v := nI 0) C dX4_syncsForRead_46 (by decide) ?_
          refine cr_istore5 (pc := 47) C dX4_syncsForRead_47 (by decide) rfl ?_
          refine cr_iload_n (pc := 49) C dX4_syncsForRead_49 rfl ?_
          refine cr_iconst (pc := 50) (v := (-1)) C dX4_syncsForRead_50 (by decide) ?_
          refine cr_icmp_eq_f (pc := 51) (tgt := 66) C dX4_syncsForRead_51 (by decide) (by decide) ?_
          refine cr_iload (pc := 54) C dX4_syncsForRead_54 rfl ?_
          refine cr_dS (pc := 56) C (sm_bits (by decide)) rfl gX4_syncsForRead_X4_bits rfl dX4_syncsForRead_56 hsX4_bits rfl ⟨rfl, rfl, Nat.le_of_ble_eq_true rfl, Nat.le_of_ble_eq_true rfl⟩ (Nat.le_of_ble_eq_true rfl) rfl ?_
          rw [show cg_pc 7 = 3 by decide]
          refine cr_iload_n (pc := 59) C dX4_syncsForRead_59 rfl ?_
          refine cr_dS (pc := 60) C (sm_bits (by decide)) rfl gX4_syncsForRead_X4_bits rfl dX4_syncsForRead_60 hsX4_bits rfl ⟨rfl, rfl, Nat.le_of_ble_eq_true rfl, Nat.le_of_ble_eq_true rfl⟩ (Nat.le_of_ble_eq_true rfl) rfl ?_
          rw [show cg_pc 4 = 1 by decide]
          refine cr_icmp_ge_t (pc := 63) (tgt := 70) C dX4_syncsForRead_63 (by decide) (by decide) ?_
          refine cr_iconst (pc := 70) (v := nI 0) C dX4_syncsForRead_70 (by decide) ?_
          refine cr_istore6 (pc := 71) C dX4_syncsForRead_71 (by decide) rfl ?_
          refine cr_iload (pc := 73) C dX4_syncsForRead_73 rfl ?_
          refine cr_if_eq_t (pc := 75) (tgt := 102) C dX4_syncsForRead_75 (by decide) (by decide) ?_
          refine cr_iload_n (pc := 102) C dX4_syncsForRead_102 rfl ?_
          refine cr_istore_n3 (pc := 103) C dX4_syncsForRead_103 (by decide) rfl ?_
          refine cr_iinc4 (pc := 104) (v := nI 8) C dX4_syncsForRead_104 (by decide) (by decide) rfl ?_
          refine cr_goto (pc := 107) (tgt := 26) C dX4_syncsForRead_107 (by decide) ?_
          refine cr_iload (pc := 26) C dX4_syncsForRead_26 rfl ?_
          refine cr_bipush (pc := 28) (v := nI 8) C dX4_syncsForRead_28 (by decide) ?_
          refine cr_icmp_ge_t (pc := 30) (tgt := 110) C dX4_syncsForRead_30 (by decide) (by decide) ?_
          refine cr_iload_n (pc := 110) C dX4_syncsForRead_110 rfl ?_
          refine cr_ireturn (pc := 111) C X dX4_syncsForRead_111 ?_
          exact ⟨by unfold cg_sf cg_s4; simp [*], cg_sb_id M 20⟩
      · have e2 := cg_bt h94
        refine cr_iload (pc := 97) C dX4_syncsForRead_97 rfl ?_
        refine cr_goto (pc := 99) (tgt := 103) C dX4_syncsForRead_99 (by decide) ?_
        refine cr_istore_n3 (pc := 103) C dX4_syncsForRead_103 (by decide) rfl ?_
        refine cr_iinc4 (pc := 104) (v := nI 3) C dX4_syncsForRead_104 (by decide) (by decide) rfl ?_
        refine cr_goto (pc := 107) (tgt := 26) C dX4_syncsForRead_107 (by decide) ?_
        refine cr_iload (pc := 26) C dX4_syncsForRead_26 rfl ?_
        refine cr_bipush (pc := 28) (v := nI 8) C dX4_syncsForRead_28 (by decide) ?_
        refine cr_icmp_ge_f (pc := 30) (tgt := 110) C dX4_syncsForRead_30 (by decide) (by decide) ?_
        refine cr_iload (pc := 33) C dX4_syncsForRead_33 rfl ?_
        refine cr_iload_n (pc := 35) C dX4_syncsForRead_35 rfl ?_
        refine cr_ishr (pc := 36) C dX4_syncsForRead_36 ?_
        refine cr_iconst (pc := 37) (v := nI 1) C dX4_syncsForRead_37 (by decide) ?_
        refine cr_iand (pc := 38) C dX4_syncsForRead_38 ?_
        refine cr_if_ne_t (pc := 39) (tgt := 46) C dX4_syncsForRead_39 (by decide) (by decide) ?_
        refine cr_iconst (pc := 46) (v := nI 0) C dX4_syncsForRead_46 (by decide) ?_
        refine cr_istore5 (pc := 47) C dX4_syncsForRead_47 (by decide) rfl ?_
        refine cr_iload_n (pc := 49) C dX4_syncsForRead_49 rfl ?_
        refine cr_iconst (pc := 50) (v := (-1)) C dX4_syncsForRead_50 (by decide) ?_
        refine cr_icmp_eq_f (pc := 51) (tgt := 66) C dX4_syncsForRead_51 (by decide) (by decide) ?_
        refine cr_iload (pc := 54) C dX4_syncsForRead_54 rfl ?_
        refine cr_dS (pc := 56) C (sm_bits (by decide)) rfl gX4_syncsForRead_X4_bits rfl dX4_syncsForRead_56 hsX4_bits rfl ⟨rfl, rfl, Nat.le_of_ble_eq_true rfl, Nat.le_of_ble_eq_true rfl⟩ (Nat.le_of_ble_eq_true rfl) rfl ?_
        rw [show cg_pc 3 = 2 by decide]
        refine cr_iload_n (pc := 59) C dX4_syncsForRead_59 rfl ?_
        refine cr_dS (pc := 60) C (sm_bits (by decide)) rfl gX4_syncsForRead_X4_bits rfl dX4_syncsForRead_60 hsX4_bits rfl ⟨rfl, rfl, Nat.le_of_ble_eq_true rfl, Nat.le_of_ble_eq_true rfl⟩ (Nat.le_of_ble_eq_true rfl) rfl ?_
        rw [show cg_pc 2 = 1 by decide]
        refine cr_icmp_ge_t (pc := 63) (tgt := 70) C dX4_syncsForRead_63 (by decide) (by decide) ?_
        refine cr_iconst (pc := 70) (v := nI 0) C dX4_syncsForRead_70 (by decide) ?_
        refine cr_istore6 (pc := 71) C dX4_syncsForRead_71 (by decide) rfl ?_
        refine cr_iload (pc := 73) C dX4_syncsForRead_73 rfl ?_
        refine cr_if_eq_t (pc := 75) (tgt := 102) C dX4_syncsForRead_75 (by decide) (by decide) ?_
        refine cr_iload_n (pc := 102) C dX4_syncsForRead_102 rfl ?_
        refine cr_istore_n3 (pc := 103) C dX4_syncsForRead_103 (by decide) rfl ?_
        refine cr_iinc4 (pc := 104) (v := nI 4) C dX4_syncsForRead_104 (by decide) (by decide) rfl ?_
        refine cr_goto (pc := 107) (tgt := 26) C dX4_syncsForRead_107 (by decide) ?_
        refine cr_iload (pc := 26) C dX4_syncsForRead_26 rfl ?_
        refine cr_bipush (pc := 28) (v := nI 8) C dX4_syncsForRead_28 (by decide) ?_
        refine cr_icmp_ge_f (pc := 30) (tgt := 110) C dX4_syncsForRead_30 (by decide) (by decide) ?_
        refine cr_iload (pc := 33) C dX4_syncsForRead_33 rfl ?_
        refine cr_iload_n (pc := 35) C dX4_syncsForRead_35 rfl ?_
        refine cr_ishr (pc := 36) C dX4_syncsForRead_36 ?_
        refine cr_iconst (pc := 37) (v := nI 1) C dX4_syncsForRead_37 (by decide) ?_
        refine cr_iand (pc := 38) C dX4_syncsForRead_38 ?_
        refine cr_if_ne_f (pc := 39) (tgt := 46) C dX4_syncsForRead_39 (by decide) (by decide) ?_
        refine cr_iconst (pc := 42) (v := nI 1) C dX4_syncsForRead_42 (by decide) ?_
        refine cr_goto (pc := 43) (tgt := 47) C dX4_syncsForRead_43 (by decide) ?_
        refine cr_istore5 (pc := 47) C dX4_syncsForRead_47 (by decide) rfl ?_
        refine cr_iload_n (pc := 49) C dX4_syncsForRead_49 rfl ?_
        refine cr_iconst (pc := 50) (v := (-1)) C dX4_syncsForRead_50 (by decide) ?_
        refine cr_icmp_eq_f (pc := 51) (tgt := 66) C dX4_syncsForRead_51 (by decide) (by decide) ?_
        refine cr_iload (pc := 54) C dX4_syncsForRead_54 rfl ?_
        refine cr_dS (pc := 56) C (sm_bits (by decide)) rfl gX4_syncsForRead_X4_bits rfl dX4_syncsForRead_56 hsX4_bits rfl ⟨rfl, rfl, Nat.le_of_ble_eq_true rfl, Nat.le_of_ble_eq_true rfl⟩ (Nat.le_of_ble_eq_true rfl) rfl ?_
        rw [show cg_pc 4 = 1 by decide]
        refine cr_iload_n (pc := 59) C dX4_syncsForRead_59 rfl ?_
        refine cr_dS (pc := 60) C (sm_bits (by decide)) rfl gX4_syncsForRead_X4_bits rfl dX4_syncsForRead_60 hsX4_bits rfl ⟨rfl, rfl, Nat.le_of_ble_eq_true rfl, Nat.le_of_ble_eq_true rfl⟩ (Nat.le_of_ble_eq_true rfl) rfl ?_
        rw [show cg_pc 2 = 1 by decide]
        refine cr_icmp_ge_t (pc := 63) (tgt := 70) C dX4_syncsForRead_63 (by decide) (by decide) ?_
        refine cr_iconst (pc := 70) (v := nI 0) C dX4_syncsForRead_70 (by decide) ?_
        refine cr_istore6 (pc := 71) C dX4_syncsForRead_71 (by decide) rfl ?_
        refine cr_iload (pc := 73) C dX4_syncsForRead_73 rfl ?_
        refine cr_if_eq_f (pc := 75) (tgt := 102) C dX4_syncsForRead_75 (by decide) (by decide) ?_
        refine cr_iload (pc := 78) C dX4_syncsForRead_78 rfl ?_
        refine cr_if_eq_t (pc := 80) (tgt := 102) C dX4_syncsForRead_80 (by decide) (by decide) ?_
        refine cr_iload_n (pc := 102) C dX4_syncsForRead_102 rfl ?_
        refine cr_istore_n3 (pc := 103) C dX4_syncsForRead_103 (by decide) rfl ?_
        refine cr_iinc4 (pc := 104) (v := nI 5) C dX4_syncsForRead_104 (by decide) (by decide) rfl ?_
        refine cr_goto (pc := 107) (tgt := 26) C dX4_syncsForRead_107 (by decide) ?_
        refine cr_iload (pc := 26) C dX4_syncsForRead_26 rfl ?_
        refine cr_bipush (pc := 28) (v := nI 8) C dX4_syncsForRead_28 (by decide) ?_
        refine cr_icmp_ge_f (pc := 30) (tgt := 110) C dX4_syncsForRead_30 (by decide) (by decide) ?_
        refine cr_iload (pc := 33) C dX4_syncsForRead_33 rfl ?_
        refine cr_iload_n (pc := 35) C dX4_syncsForRead_35 rfl ?_
        refine cr_ishr (pc := 36) C dX4_syncsForRead_36 ?_
        refine cr_iconst (pc := 37) (v := nI 1) C dX4_syncsForRead_37 (by decide) ?_
        refine cr_iand (pc := 38) C dX4_syncsForRead_38 ?_
        refine cr_if_ne_t (pc := 39) (tgt := 46) C dX4_syncsForRead_39 (by decide) (by decide) ?_
        refine cr_iconst (pc := 46) (v := nI 0) C dX4_syncsForRead_46 (by decide) ?_
        refine cr_istore5 (pc := 47) C dX4_syncsForRead_47 (by decide) rfl ?_
        refine cr_iload_n (pc := 49) C dX4_syncsForRead_49 rfl ?_
        refine cr_iconst (pc := 50) (v := (-1)) C dX4_syncsForRead_50 (by decide) ?_
        refine cr_icmp_eq_f (pc := 51) (tgt := 66) C dX4_syncsForRead_51 (by decide) (by decide) ?_
        refine cr_iload (pc := 54) C dX4_syncsForRead_54 rfl ?_
        refine cr_dS (pc := 56) C (sm_bits (by decide)) rfl gX4_syncsForRead_X4_bits rfl dX4_syncsForRead_56 hsX4_bits rfl ⟨rfl, rfl, Nat.le_of_ble_eq_true rfl, Nat.le_of_ble_eq_true rfl⟩ (Nat.le_of_ble_eq_true rfl) rfl ?_
        rw [show cg_pc 5 = 2 by decide]
        refine cr_iload_n (pc := 59) C dX4_syncsForRead_59 rfl ?_
        refine cr_dS (pc := 60) C (sm_bits (by decide)) rfl gX4_syncsForRead_X4_bits rfl dX4_syncsForRead_60 hsX4_bits rfl ⟨rfl, rfl, Nat.le_of_ble_eq_true rfl, Nat.le_of_ble_eq_true rfl⟩ (Nat.le_of_ble_eq_true rfl) rfl ?_
        rw [show cg_pc 2 = 1 by decide]
        refine cr_icmp_ge_t (pc := 63) (tgt := 70) C dX4_syncsForRead_63 (by decide) (by decide) ?_
        refine cr_iconst (pc := 70) (v := nI 0) C dX4_syncsForRead_70 (by decide) ?_
        refine cr_istore6 (pc := 71) C dX4_syncsForRead_71 (by decide) rfl ?_
        refine cr_iload (pc := 73) C dX4_syncsForRead_73 rfl ?_
        refine cr_if_eq_t (pc := 75) (tgt := 102) C dX4_syncsForRead_75 (by decide) (by decide) ?_
        refine cr_iload_n (pc := 102) C dX4_syncsForRead_102 rfl ?_
        refine cr_istore_n3 (pc := 103) C dX4_syncsForRead_103 (by decide) rfl ?_
        refine cr_iinc4 (pc := 104) (v := nI 6) C dX4_syncsForRead_104 (by decide) (by decide) rfl ?_
        refine cr_goto (pc := 107) (tgt := 26) C dX4_syncsForRead_107 (by decide) ?_
        refine cr_iload (pc := 26) C dX4_syncsForRead_26 rfl ?_
        refine cr_bipush (pc := 28) (v := nI 8) C dX4_syncsForRead_28 (by decide) ?_
        refine cr_icmp_ge_f (pc := 30) (tgt := 110) C dX4_syncsForRead_30 (by decide) (by decide) ?_
        refine cr_iload (pc := 33) C dX4_syncsForRead_33 rfl ?_
        refine cr_iload_n (pc := 35) C dX4_syncsForRead_35 rfl ?_
        refine cr_ishr (pc := 36) C dX4_syncsForRead_36 ?_
        refine cr_iconst (pc := 37) (v := nI 1) C dX4_syncsForRead_37 (by decide) ?_
        refine cr_iand (pc := 38) C dX4_syncsForRead_38 ?_
        refine cr_if_ne_f (pc := 39) (tgt := 46) C dX4_syncsForRead_39 (by decide) (by decide) ?_
        refine cr_iconst (pc := 42) (v := nI 1) C dX4_syncsForRead_42 (by decide) ?_
        refine cr_goto (pc := 43) (tgt := 47) C dX4_syncsForRead_43 (by decide) ?_
        refine cr_istore5 (pc := 47) C dX4_syncsForRead_47 (by decide) rfl ?_
        refine cr_iload_n (pc := 49) C dX4_syncsForRead_49 rfl ?_
        refine cr_iconst (pc := 50) (v := (-1)) C dX4_syncsForRead_50 (by decide) ?_
        refine cr_icmp_eq_f (pc := 51) (tgt := 66) C dX4_syncsForRead_51 (by decide) (by decide) ?_
        refine cr_iload (pc := 54) C dX4_syncsForRead_54 rfl ?_
        refine cr_dS (pc := 56) C (sm_bits (by decide)) rfl gX4_syncsForRead_X4_bits rfl dX4_syncsForRead_56 hsX4_bits rfl ⟨rfl, rfl, Nat.le_of_ble_eq_true rfl, Nat.le_of_ble_eq_true rfl⟩ (Nat.le_of_ble_eq_true rfl) rfl ?_
        rw [show cg_pc 6 = 2 by decide]
        refine cr_iload_n (pc := 59) C dX4_syncsForRead_59 rfl ?_
        refine cr_dS (pc := 60) C (sm_bits (by decide)) rfl gX4_syncsForRead_X4_bits rfl dX4_syncsForRead_60 hsX4_bits rfl ⟨rfl, rfl, Nat.le_of_ble_eq_true rfl, Nat.le_of_ble_eq_true rfl⟩ (Nat.le_of_ble_eq_true rfl) rfl ?_
        rw [show cg_pc 2 = 1 by decide]
        refine cr_icmp_ge_t (pc := 63) (tgt := 70) C dX4_syncsForRead_63 (by decide) (by decide) ?_
        refine cr_iconst (pc := 70) (v := nI 0) C dX4_syncsForRead_70 (by decide) ?_
        refine cr_istore6 (pc := 71) C dX4_syncsForRead_71 (by decide) rfl ?_
        refine cr_iload (pc := 73) C dX4_syncsForRead_73 rfl ?_
        refine cr_if_eq_f (pc := 75) (tgt := 102) C dX4_syncsForRead_75 (by decide) (by decide) ?_
        refine cr_iload (pc := 78) C dX4_syncsForRead_78 rfl ?_
        refine cr_if_eq_t (pc := 80) (tgt := 102) C dX4_syncsForRead_80 (by decide) (by decide) ?_
        refine cr_iload_n (pc := 102) C dX4_syncsForRead_102 rfl ?_
        refine cr_istore_n3 (pc := 103) C dX4_syncsForRead_103 (by decide) rfl ?_
        refine cr_iinc4 (pc := 104) (v := nI 7) C dX4_syncsForRead_104 (by decide) (by decide) rfl ?_
        refine cr_goto (pc := 107) (tgt := 26) C dX4_syncsForRead_107 (by decide) ?_
        refine cr_iload (pc := 26) C dX4_syncsForRead_26 rfl ?_
        refine cr_bipush (pc := 28) (v := nI 8) C dX4_syncsForRead_28 (by decide) ?_
        refine cr_icmp_ge_f (pc := 30) (tgt := 110) C dX4_syncsForRead_30 (by decide) (by decide) ?_
        refine cr_iload (pc := 33) C dX4_syncsForRead_33 rfl ?_
        refine cr_iload_n (pc := 35) C dX4_syncsForRead_35 rfl ?_
        refine cr_ishr (pc := 36) C dX4_syncsForRead_36 ?_
        refine cr_iconst (pc := 37) (v := nI 1) C dX4_syncsForRead_37 (by decide) ?_
        refine cr_iand (pc := 38) C dX4_syncsForRead_38 ?_
        refine cr_if_ne_t (pc := 39) (tgt := 46) C dX4_syncsForRead_39 (by decide) (by decide) ?_
        refine cr_iconst (pc := 46) (v := nI 0) C dX4_syncsForRead_46 (by decide) ?_
        refine cr_istore5 (pc := 47) C dX4_syncsForRead_47 (by decide) rfl ?_
        refine cr_iload_n (pc := 49) C dX4_syncsForRead_49 rfl ?_
        refine cr_iconst (pc := 50) (v := (-1)) C dX4_syncsForRead_50 (by decide) ?_
        refine cr_icmp_eq_f (pc := 51) (tgt := 66) C dX4_syncsForRead_51 (by decide) (by decide) ?_
        refine cr_iload (pc := 54) C dX4_syncsForRead_54 rfl ?_
        refine cr_dS (pc := 56) C (sm_bits (by decide)) rfl gX4_syncsForRead_X4_bits rfl dX4_syncsForRead_56 hsX4_bits rfl ⟨rfl, rfl, Nat.le_of_ble_eq_true rfl, Nat.le_of_ble_eq_true rfl⟩ (Nat.le_of_ble_eq_true rfl) rfl ?_
        rw [show cg_pc 7 = 3 by decide]
        refine cr_iload_n (pc := 59) C dX4_syncsForRead_59 rfl ?_
        refine cr_dS (pc := 60) C (sm_bits (by decide)) rfl gX4_syncsForRead_X4_bits rfl dX4_syncsForRead_60 hsX4_bits rfl ⟨rfl, rfl, Nat.le_of_ble_eq_true rfl, Nat.le_of_ble_eq_true rfl⟩ (Nat.le_of_ble_eq_true rfl) rfl ?_
        rw [show cg_pc 2 = 1 by decide]
        refine cr_icmp_ge_t (pc := 63) (tgt := 70) C dX4_syncsForRead_63 (by decide) (by decide) ?_
        refine cr_iconst (pc := 70) (v := nI 0) C dX4_syncsForRead_70 (by decide) ?_
        refine cr_istore6 (pc := 71) C dX4_syncsForRead_71 (by decide) rfl ?_
        refine cr_iload (pc := 73) C dX4_syncsForRead_73 rfl ?_
        refine cr_if_eq_t (pc := 75) (tgt := 102) C dX4_syncsForRead_75 (by decide) (by decide) ?_
        refine cr_iload_n (pc := 102) C dX4_syncsForRead_102 rfl ?_
        refine cr_istore_n3 (pc := 103) C dX4_syncsForRead_103 (by decide) rfl ?_
        refine cr_iinc4 (pc := 104) (v := nI 8) C dX4_syncsForRead_104 (by decide) (by decide) rfl ?_
        refine cr_goto (pc := 107) (tgt := 26) C dX4_syncsForRead_107 (by decide) ?_
        refine cr_iload (pc := 26) C dX4_syncsForRead_26 rfl ?_
        refine cr_bipush (pc := 28) (v := nI 8) C dX4_syncsForRead_28 (by decide) ?_
        refine cr_icmp_ge_t (pc := 30) (tgt := 110) C dX4_syncsForRead_30 (by decide) (by decide) ?_
        refine cr_iload_n (pc := 110) C dX4_syncsForRead_110 rfl ?_
        refine cr_ireturn (pc := 111) C X dX4_syncsForRead_111 ?_
        exact ⟨by unfold cg_sf cg_s4; simp [*], cg_sb_id M 20⟩
    · have e0 := cg_bt h94
      refine cr_iload (pc := 97) C dX4_syncsForRead_97 rfl ?_
      refine cr_goto (pc := 99) (tgt := 103) C dX4_syncsForRead_99 (by decide) ?_
      refine cr_istore_n3 (pc := 103) C dX4_syncsForRead_103 (by decide) rfl ?_
      refine cr_iinc4 (pc := 104) (v := nI 1) C dX4_syncsForRead_104 (by decide) (by decide) rfl ?_
      refine cr_goto (pc := 107) (tgt := 26) C dX4_syncsForRead_107 (by decide) ?_
      refine cr_iload (pc := 26) C dX4_syncsForRead_26 rfl ?_
      refine cr_bipush (pc := 28) (v := nI 8) C dX4_syncsForRead_28 (by decide) ?_
      refine cr_icmp_ge_f (pc := 30) (tgt := 110) C dX4_syncsForRead_30 (by decide) (by decide) ?_
      refine cr_iload (pc := 33) C dX4_syncsForRead_33 rfl ?_
      refine cr_iload_n (pc := 35) C dX4_syncsForRead_35 rfl ?_
      refine cr_ishr (pc := 36) C dX4_syncsForRead_36 ?_
      refine cr_iconst (pc := 37) (v := nI 1) C dX4_syncsForRead_37 (by decide) ?_
      refine cr_iand (pc := 38) C dX4_syncsForRead_38 ?_
      refine cr_if_ne_t (pc := 39) (tgt := 46) C dX4_syncsForRead_39 (by decide) (by decide) ?_
      refine cr_iconst (pc := 46) (v := nI 0) C dX4_syncsForRead_46 (by decide) ?_
      refine cr_istore5 (pc := 47) C dX4_syncsForRead_47 (by decide) rfl ?_
      refine cr_iload_n (pc := 49) C dX4_syncsForRead_49 rfl ?_
      refine cr_iconst (pc := 50) (v := (-1)) C dX4_syncsForRead_50 (by decide) ?_
      refine cr_icmp_eq_f (pc := 51) (tgt := 66) C dX4_syncsForRead_51 (by decide) (by decide) ?_
      refine cr_iload (pc := 54) C dX4_syncsForRead_54 rfl ?_
      refine cr_dS (pc := 56) C (sm_bits (by decide)) rfl gX4_syncsForRead_X4_bits rfl dX4_syncsForRead_56 hsX4_bits rfl ⟨rfl, rfl, Nat.le_of_ble_eq_true rfl, Nat.le_of_ble_eq_true rfl⟩ (Nat.le_of_ble_eq_true rfl) rfl ?_
      rw [show cg_pc 1 = 1 by decide]
      refine cr_iload_n (pc := 59) C dX4_syncsForRead_59 rfl ?_
      refine cr_dS (pc := 60) C (sm_bits (by decide)) rfl gX4_syncsForRead_X4_bits rfl dX4_syncsForRead_60 hsX4_bits rfl ⟨rfl, rfl, Nat.le_of_ble_eq_true rfl, Nat.le_of_ble_eq_true rfl⟩ (Nat.le_of_ble_eq_true rfl) rfl ?_
      rw [show cg_pc 0 = 0 by decide]
      refine cr_icmp_ge_t (pc := 63) (tgt := 70) C dX4_syncsForRead_63 (by decide) (by decide) ?_
      refine cr_iconst (pc := 70) (v := nI 0) C dX4_syncsForRead_70 (by decide) ?_
      refine cr_istore6 (pc := 71) C dX4_syncsForRead_71 (by decide) rfl ?_
      refine cr_iload (pc := 73) C dX4_syncsForRead_73 rfl ?_
      refine cr_if_eq_t (pc := 75) (tgt := 102) C dX4_syncsForRead_75 (by decide) (by decide) ?_
      refine cr_iload_n (pc := 102) C dX4_syncsForRead_102 rfl ?_
      refine cr_istore_n3 (pc := 103) C dX4_syncsForRead_103 (by decide) rfl ?_
      refine cr_iinc4 (pc := 104) (v := nI 2) C dX4_syncsForRead_104 (by decide) (by decide) rfl ?_
      refine cr_goto (pc := 107) (tgt := 26) C dX4_syncsForRead_107 (by decide) ?_
      refine cr_iload (pc := 26) C dX4_syncsForRead_26 rfl ?_
      refine cr_bipush (pc := 28) (v := nI 8) C dX4_syncsForRead_28 (by decide) ?_
      refine cr_icmp_ge_f (pc := 30) (tgt := 110) C dX4_syncsForRead_30 (by decide) (by decide) ?_
      refine cr_iload (pc := 33) C dX4_syncsForRead_33 rfl ?_
      refine cr_iload_n (pc := 35) C dX4_syncsForRead_35 rfl ?_
      refine cr_ishr (pc := 36) C dX4_syncsForRead_36 ?_
      refine cr_iconst (pc := 37) (v := nI 1) C dX4_syncsForRead_37 (by decide) ?_
      refine cr_iand (pc := 38) C dX4_syncsForRead_38 ?_
      refine cr_if_ne_f (pc := 39) (tgt := 46) C dX4_syncsForRead_39 (by decide) (by decide) ?_
      refine cr_iconst (pc := 42) (v := nI 1) C dX4_syncsForRead_42 (by decide) ?_
      refine cr_goto (pc := 43) (tgt := 47) C dX4_syncsForRead_43 (by decide) ?_
      refine cr_istore5 (pc := 47) C dX4_syncsForRead_47 (by decide) rfl ?_
      refine cr_iload_n (pc := 49) C dX4_syncsForRead_49 rfl ?_
      refine cr_iconst (pc := 50) (v := (-1)) C dX4_syncsForRead_50 (by decide) ?_
      refine cr_icmp_eq_f (pc := 51) (tgt := 66) C dX4_syncsForRead_51 (by decide) (by decide) ?_
      refine cr_iload (pc := 54) C dX4_syncsForRead_54 rfl ?_
      refine cr_dS (pc := 56) C (sm_bits (by decide)) rfl gX4_syncsForRead_X4_bits rfl dX4_syncsForRead_56 hsX4_bits rfl ⟨rfl, rfl, Nat.le_of_ble_eq_true rfl, Nat.le_of_ble_eq_true rfl⟩ (Nat.le_of_ble_eq_true rfl) rfl ?_
      rw [show cg_pc 2 = 1 by decide]
      refine cr_iload_n (pc := 59) C dX4_syncsForRead_59 rfl ?_
      refine cr_dS (pc := 60) C (sm_bits (by decide)) rfl gX4_syncsForRead_X4_bits rfl dX4_syncsForRead_60 hsX4_bits rfl ⟨rfl, rfl, Nat.le_of_ble_eq_true rfl, Nat.le_of_ble_eq_true rfl⟩ (Nat.le_of_ble_eq_true rfl) rfl ?_
      rw [show cg_pc 0 = 0 by decide]
      refine cr_icmp_ge_t (pc := 63) (tgt := 70) C dX4_syncsForRead_63 (by decide) (by decide) ?_
      refine cr_iconst (pc := 70) (v := nI 0) C dX4_syncsForRead_70 (by decide) ?_
      refine cr_istore6 (pc := 71) C dX4_syncsForRead_71 (by decide) rfl ?_
      refine cr_iload (pc := 73) C dX4_syncsForRead_73 rfl ?_
      refine cr_if_eq_f (pc := 75) (tgt := 102) C dX4_syncsForRead_75 (by decide) (by decide) ?_
      refine cr_iload (pc := 78) C dX4_syncsForRead_78 rfl ?_
      refine cr_if_eq_t (pc := 80) (tgt := 102) C dX4_syncsForRead_80 (by decide) (by decide) ?_
      refine cr_iload_n (pc := 102) C dX4_syncsForRead_102 rfl ?_
      refine cr_istore_n3 (pc := 103) C dX4_syncsForRead_103 (by decide) rfl ?_
      refine cr_iinc4 (pc := 104) (v := nI 3) C dX4_syncsForRead_104 (by decide) (by decide) rfl ?_
      refine cr_goto (pc := 107) (tgt := 26) C dX4_syncsForRead_107 (by decide) ?_
      refine cr_iload (pc := 26) C dX4_syncsForRead_26 rfl ?_
      refine cr_bipush (pc := 28) (v := nI 8) C dX4_syncsForRead_28 (by decide) ?_
      refine cr_icmp_ge_f (pc := 30) (tgt := 110) C dX4_syncsForRead_30 (by decide) (by decide) ?_
      refine cr_iload (pc := 33) C dX4_syncsForRead_33 rfl ?_
      refine cr_iload_n (pc := 35) C dX4_syncsForRead_35 rfl ?_
      refine cr_ishr (pc := 36) C dX4_syncsForRead_36 ?_
      refine cr_iconst (pc := 37) (v := nI 1) C dX4_syncsForRead_37 (by decide) ?_
      refine cr_iand (pc := 38) C dX4_syncsForRead_38 ?_
      refine cr_if_ne_t (pc := 39) (tgt := 46) C dX4_syncsForRead_39 (by decide) (by decide) ?_
      refine cr_iconst (pc := 46) (v := nI 0) C dX4_syncsForRead_46 (by decide) ?_
      refine cr_istore5 (pc := 47) C dX4_syncsForRead_47 (by decide) rfl ?_
      refine cr_iload_n (pc := 49) C dX4_syncsForRead_49 rfl ?_
      refine cr_iconst (pc := 50) (v := (-1)) C dX4_syncsForRead_50 (by decide) ?_
      refine cr_icmp_eq_f (pc := 51) (tgt := 66) C dX4_syncsForRead_51 (by decide) (by decide) ?_
      refine cr_iload (pc := 54) C dX4_syncsForRead_54 rfl ?_
      refine cr_dS (pc := 56) C (sm_bits (by decide)) rfl gX4_syncsForRead_X4_bits rfl dX4_syncsForRead_56 hsX4_bits rfl ⟨rfl, rfl, Nat.le_of_ble_eq_true rfl, Nat.le_of_ble_eq_true rfl⟩ (Nat.le_of_ble_eq_true rfl) rfl ?_
      rw [show cg_pc 3 = 2 by decide]
      refine cr_iload_n (pc := 59) C dX4_syncsForRead_59 rfl ?_
      refine cr_dS (pc := 60) C (sm_bits (by decide)) rfl gX4_syncsForRead_X4_bits rfl dX4_syncsForRead_60 hsX4_bits rfl ⟨rfl, rfl, Nat.le_of_ble_eq_true rfl, Nat.le_of_ble_eq_true rfl⟩ (Nat.le_of_ble_eq_true rfl) rfl ?_
      rw [show cg_pc 0 = 0 by decide]
      refine cr_icmp_ge_t (pc := 63) (tgt := 70) C dX4_syncsForRead_63 (by decide) (by decide) ?_
      refine cr_iconst (pc := 70) (v := nI 0) C dX4_syncsForRead_70 (by decide) ?_
      refine cr_istore6 (pc := 71) C dX4_syncsForRead_71 (by decide) rfl ?_
      refine cr_iload (pc := 73) C dX4_syncsForRead_73 rfl ?_
      refine cr_if_eq_t (pc := 75) (tgt := 102) C dX4_syncsForRead_75 (by decide) (by decide) ?_
      refine cr_iload_n (pc := 102) C dX4_syncsForRead_102 rfl ?_
      refine cr_istore_n3 (pc := 103) C dX4_syncsForRead_103 (by decide) rfl ?_
      refine cr_iinc4 (pc := 104) (v := nI 4) C dX4_syncsForRead_104 (by decide) (by decide) rfl ?_
      refine cr_goto (pc := 107) (tgt := 26) C dX4_syncsForRead_107 (by decide) ?_
      refine cr_iload (pc := 26) C dX4_syncsForRead_26 rfl ?_
      refine cr_bipush (pc := 28) (v := nI 8) C dX4_syncsForRead_28 (by decide) ?_
      refine cr_icmp_ge_f (pc := 30) (tgt := 110) C dX4_syncsForRead_30 (by decide) (by decide) ?_
      refine cr_iload (pc := 33) C dX4_syncsForRead_33 rfl ?_
      refine cr_iload_n (pc := 35) C dX4_syncsForRead_35 rfl ?_
      refine cr_ishr (pc := 36) C dX4_syncsForRead_36 ?_
      refine cr_iconst (pc := 37) (v := nI 1) C dX4_syncsForRead_37 (by decide) ?_
      refine cr_iand (pc := 38) C dX4_syncsForRead_38 ?_
      refine cr_if_ne_f (pc := 39) (tgt := 46) C dX4_syncsForRead_39 (by decide) (by decide) ?_
      refine cr_iconst (pc := 42) (v := nI 1) C dX4_syncsForRead_42 (by decide) ?_
      refine cr_goto (pc := 43) (tgt := 47) C dX4_syncsForRead_43 (by decide) ?_
      refine cr_istore5 (pc := 47) C dX4_syncsForRead_47 (by decide) rfl ?_
      refine cr_iload_n (pc := 49) C dX4_syncsForRead_49 rfl ?_
      refine cr_iconst (pc := 50) (v := (-1)) C dX4_syncsForRead_50 (by decide) ?_
      refine cr_icmp_eq_f (pc := 51) (tgt := 66) C dX4_syncsForRead_51 (by decide) (by decide) ?_
      refine cr_iload (pc := 54) C dX4_syncsForRead_54 rfl ?_
      refine cr_dS (pc := 56) C (sm_bits (by decide)) rfl gX4_syncsForRead_X4_bits rfl dX4_syncsForRead_56 hsX4_bits rfl ⟨rfl, rfl, Nat.le_of_ble_eq_true rfl, Nat.le_of_ble_eq_true rfl⟩ (Nat.le_of_ble_eq_true rfl) rfl ?_
      rw [show cg_pc 4 = 1 by decide]
      refine cr_iload_n (pc := 59) C dX4_syncsForRead_59 rfl ?_
      refine cr_dS (pc := 60) C (sm_bits (by decide)) rfl gX4_syncsForRead_X4_bits rfl dX4_syncsForRead_60 hsX4_bits rfl ⟨rfl, rfl, Nat.le_of_ble_eq_true rfl, Nat.le_of_ble_eq_true rfl⟩ (Nat.le_of_ble_eq_true rfl) rfl ?_
      rw [show cg_pc 0 = 0 by decide]
      refine cr_icmp_ge_t (pc := 63) (tgt := 70) C dX4_syncsForRead_63 (by decide) (by decide) ?_
      refine cr_iconst (pc := 70) (v := nI 0) C dX4_syncsForRead_70 (by decide) ?_
      refine cr_istore6 (pc := 71) C dX4_syncsForRead_71 (by decide) rfl ?_
      refine cr_iload (pc := 73) C dX4_syncsForRead_73 rfl ?_
      refine cr_if_eq_f (pc := 75) (tgt := 102) C dX4_syncsForRead_75 (by decide) (by decide) ?_
      refine cr_iload (pc := 78) C dX4_syncsForRead_78 rfl ?_
      refine cr_if_eq_t (pc := 80) (tgt := 102) C dX4_syncsForRead_80 (by decide) (by decide) ?_
      refine cr_iload_n (pc := 102) C dX4_syncsForRead_102 rfl ?_
      refine cr_istore_n3 (pc := 103) C dX4_syncsForRead_103 (by decide) rfl ?_
      refine cr_iinc4 (pc := 104) (v := nI 5) C dX4_syncsForRead_104 (by decide) (by decide) rfl ?_
      refine cr_goto (pc := 107) (tgt := 26) C dX4_syncsForRead_107 (by decide) ?_
      refine cr_iload (pc := 26) C dX4_syncsForRead_26 rfl ?_
      refine cr_bipush (pc := 28) (v := nI 8) C dX4_syncsForRead_28 (by decide) ?_
      refine cr_icmp_ge_f (pc := 30) (tgt := 110) C dX4_syncsForRead_30 (by decide) (by decide) ?_
      refine cr_iload (pc := 33) C dX4_syncsForRead_33 rfl ?_
      refine cr_iload_n (pc := 35) C dX4_syncsForRead_35 rfl ?_
      refine cr_ishr (pc := 36) C dX4_syncsForRead_36 ?_
      refine cr_iconst (pc := 37) (v := nI 1) C dX4_syncsForRead_37 (by decide) ?_
      refine cr_iand (pc := 38) C dX4_syncsForRead_38 ?_
      refine cr_if_ne_t (pc := 39) (tgt := 46) C dX4_syncsForRead_39 (by decide) (by decide) ?_
      refine cr_iconst (pc := 46) (v := nI 0) C dX4_syncsForRead_46 (by decide) ?_
      refine cr_istore5 (pc := 47) C dX4_syncsForRead_47 (by decide) rfl ?_
      refine cr_iload_n (pc := 49) C dX4_syncsForRead_49 rfl ?_
      refine cr_iconst (pc := 50) (v := (-1)) C dX4_syncsForRead_50 (by decide) ?_
      refine cr_icmp_eq_f (pc := 51) (tgt := 66) C dX4_syncsForRead_51 (by decide) (by decide) ?_
      refine cr_iload (pc := 54) C dX4_syncsForRead_54 rfl ?_
      refine cr_dS (pc := 56) C (sm_bits (by decide)) rfl gX4_syncsForRead_X4_bits rfl dX4_syncsForRead_56 hsX4_bits rfl ⟨rfl, rfl, Nat.le_of_ble_eq_true rfl, Nat.le_of_ble_eq_true rfl⟩ (Nat.le_of_ble_eq_true rfl) rfl ?_
      rw [show cg_pc 5 = 2 by decide]
      refine cr_iload_n (pc := 59) C dX4_syncsForRead_59 rfl ?_
      refine cr_dS (pc := 60) C (sm_bits (by decide)) rfl gX4_syncsForRead_X4_bits rfl dX4_syncsForRead_60 hsX4_bits rfl ⟨rfl, rfl, Nat.le_of_ble_eq_true rfl, Nat.le_of_ble_eq_true rfl⟩ (Nat.le_of_ble_eq_true rfl) rfl ?_
      rw [show cg_pc 0 = 0 by decide]
      refine cr_icmp_ge_t (pc := 63) (tgt := 70) C dX4_syncsForRead_63 (by decide) (by decide) ?_
      refine cr_iconst (pc := 70) (v := nI 0) C dX4_syncsForRead_70 (by decide) ?_
      refine cr_istore6 (pc := 71) C dX4_syncsForRead_71 (by decide) rfl ?_
      refine cr_iload (pc := 73) C dX4_syncsForRead_73 rfl ?_
      refine cr_if_eq_t (pc := 75) (tgt := 102) C dX4_syncsForRead_75 (by decide) (by decide) ?_
      refine cr_iload_n (pc := 102) C dX4_syncsForRead_102 rfl ?_
      refine cr_istore_n3 (pc := 103) C dX4_syncsForRead_103 (by decide) rfl ?_
      refine cr_iinc4 (pc := 104) (v := nI 6) C dX4_syncsForRead_104 (by decide) (by decide) rfl ?_
      refine cr_goto (pc := 107) (tgt := 26) C dX4_syncsForRead_107 (by decide) ?_
      refine cr_iload (pc := 26) C dX4_syncsForRead_26 rfl ?_
      refine cr_bipush (pc := 28) (v := nI 8) C dX4_syncsForRead_28 (by decide) ?_
      refine cr_icmp_ge_f (pc := 30) (tgt := 110) C dX4_syncsForRead_30 (by decide) (by decide) ?_
      refine cr_iload (pc := 33) C dX4_syncsForRead_33 rfl ?_
      refine cr_iload_n (pc := 35) C dX4_syncsForRead_35 rfl ?_
      refine cr_ishr (pc := 36) C dX4_syncsForRead_36 ?_
      refine cr_iconst (pc := 37) (v := nI 1) C dX4_syncsForRead_37 (by decide) ?_
      refine cr_iand (pc := 38) C dX4_syncsForRead_38 ?_
      refine cr_if_ne_f (pc := 39) (tgt := 46) C dX4_syncsForRead_39 (by decide) (by decide) ?_
      refine cr_iconst (pc := 42) (v := nI 1) C dX4_syncsForRead_42 (by decide) ?_
      refine cr_goto (pc := 43) (tgt := 47) C dX4_syncsForRead_43 (by decide) ?_
      refine cr_istore5 (pc := 47) C dX4_syncsForRead_47 (by decide) rfl ?_
      refine cr_iload_n (pc := 49) C dX4_syncsForRead_49 rfl ?_
      refine cr_iconst (pc := 50) (v := (-1)) C dX4_syncsForRead_50 (by decide) ?_
      refine cr_icmp_eq_f (pc := 51) (tgt := 66) C dX4_syncsForRead_51 (by decide) (by decide) ?_
      refine cr_iload (pc := 54) C dX4_syncsForRead_54 rfl ?_
      refine cr_dS (pc := 56) C (sm_bits (by decide)) rfl gX4_syncsForRead_X4_bits rfl dX4_syncsForRead_56 hsX4_bits rfl ⟨rfl, rfl, Nat.le_of_ble_eq_true rfl, Nat.le_of_ble_eq_true rfl⟩ (Nat.le_of_ble_eq_true rfl) rfl ?_
      rw [show cg_pc 6 = 2 by decide]
      refine cr_iload_n (pc := 59) C dX4_syncsForRead_59 rfl ?_
      refine cr_dS (pc := 60) C (sm_bits (by decide)) rfl gX4_syncsForRead_X4_bits rfl dX4_syncsForRead_60 hsX4_bits rfl ⟨rfl, rfl, Nat.le_of_ble_eq_true rfl, Nat.le_of_ble_eq_true rfl⟩ (Nat.le_of_ble_eq_true rfl) rfl ?_
      rw [show cg_pc 0 = 0 by decide]
      refine cr_icmp_ge_t (pc := 63) (tgt := 70) C dX4_syncsForRead_63 (by decide) (by decide) ?_
      refine cr_iconst (pc := 70) (v := nI 0) C dX4_syncsForRead_70 (by decide) ?_
      refine cr_istore6 (pc := 71) C dX4_syncsForRead_71 (by decide) rfl ?_
      refine cr_iload (pc := 73) C dX4_syncsForRead_73 rfl ?_
      refine cr_if_eq_f (pc := 75) (tgt := 102) C dX4_syncsForRead_75 (by decide) (by decide) ?_
      refine cr_iload (pc := 78) C dX4_syncsForRead_78 rfl ?_
      refine cr_if_eq_t (pc := 80) (tgt := 102) C dX4_syncsForRead_80 (by decide) (by decide) ?_
      refine cr_iload_n (pc := 102) C dX4_syncsForRead_102 rfl ?_
      refine cr_istore_n3 (pc := 103) C dX4_syncsForRead_103 (by decide) rfl ?_
      refine cr_iinc4 (pc := 104) (v := nI 7) C dX4_syncsForRead_104 (by decide) (by decide) rfl ?_
      refine cr_goto (pc := 107) (tgt := 26) C dX4_syncsForRead_107 (by decide) ?_
      refine cr_iload (pc := 26) C dX4_syncsForRead_26 rfl ?_
      refine cr_bipush (pc := 28) (v := nI 8) C dX4_syncsForRead_28 (by decide) ?_
      refine cr_icmp_ge_f (pc := 30) (tgt := 110) C dX4_syncsForRead_30 (by decide) (by decide) ?_
      refine cr_iload (pc := 33) C dX4_syncsForRead_33 rfl ?_
      refine cr_iload_n (pc := 35) C dX4_syncsForRead_35 rfl ?_
      refine cr_ishr (pc := 36) C dX4_syncsForRead_36 ?_
      refine cr_iconst (pc := 37) (v := nI 1) C dX4_syncsForRead_37 (by decide) ?_
      refine cr_iand (pc := 38) C dX4_syncsForRead_38 ?_
      refine cr_if_ne_t (pc := 39) (tgt := 46) C dX4_syncsForRead_39 (by decide) (by decide) ?_
      refine cr_iconst (pc := 46) (v := nI 0) C dX4_syncsForRead_46 (by decide) ?_
      refine cr_istore5 (pc := 47) C dX4_syncsForRead_47 (by decide) rfl ?_
      refine cr_iload_n (pc := 49) C dX4_syncsForRead_49 rfl ?_
      refine cr_iconst (pc := 50) (v := (-1)) C dX4_syncsForRead_50 (by decide) ?_
      refine cr_icmp_eq_f (pc := 51) (tgt := 66) C dX4_syncsForRead_51 (by decide) (by decide) ?_
      refine cr_iload (pc := 54) C dX4_syncsForRead_54 rfl ?_
      refine cr_dS (pc := 56) C (sm_bits (by decide)) rfl gX4_syncsForRead_X4_bits rfl dX4_syncsForRead_56 hsX4_bits rfl ⟨rfl, rfl, Nat.le_of_ble_eq_true rfl, Nat.le_of_ble_eq_true rfl⟩ (Nat.le_of_ble_eq_true rfl) rfl ?_
      rw [show cg_pc 7 = 3 by decide]
      refine cr_iload_n (pc := 59) C dX4_syncsForRead_59 rfl ?_
      refine cr_dS (pc := 60) C (sm_bits (by decide)) rfl gX4_syncsForRead_X4_bits rfl dX4_syncsForRead_60 hsX4_bits rfl ⟨rfl, rfl, Nat.le_of_ble_eq_true rfl, Nat.le_of_ble_eq_true rfl⟩ (Nat.le_of_ble_eq_true rfl) rfl ?_
      rw [show cg_pc 0 = 0 by decide]
      refine cr_icmp_ge_t (pc := 63) (tgt := 70) C dX4_syncsForRead_63 (by decide) (by decide) ?_
      refine cr_iconst (pc := 70) (v := nI 0) C dX4_syncsForRead_70 (by decide) ?_
      refine cr_istore6 (pc := 71) C dX4_syncsForRead_71 (by decide) rfl ?_
      refine cr_iload (pc := 73) C dX4_syncsForRead_73 rfl ?_
      refine cr_if_eq_t (pc := 75) (tgt := 102) C dX4_syncsForRead_75 (by decide) (by decide) ?_
      refine cr_iload_n (pc := 102) C dX4_syncsForRead_102 rfl ?_
      refine cr_istore_n3 (pc := 103) C dX4_syncsForRead_103 (by decide) rfl ?_
      refine cr_iinc4 (pc := 104) (v := nI 8) C dX4_syncsForRead_104 (by decide) (by decide) rfl ?_
      refine cr_goto (pc := 107) (tgt := 26) C dX4_syncsForRead_107 (by decide) ?_
      refine cr_iload (pc := 26) C dX4_syncsForRead_26 rfl ?_
      refine cr_bipush (pc := 28) (v := nI 8) C dX4_syncsForRead_28 (by decide) ?_
      refine cr_icmp_ge_t (pc := 30) (tgt := 110) C dX4_syncsForRead_30 (by decide) (by decide) ?_
      refine cr_iload_n (pc := 110) C dX4_syncsForRead_110 rfl ?_
      refine cr_ireturn (pc := 111) C X dX4_syncsForRead_111 ?_
      exact ⟨by unfold cg_sf cg_s4; simp [*], cg_sb_id M 20⟩
  · refine cg_S_of (cc := cX4_syncsForRead) (maxL := 7) (ret := (some .int)) (ls0 := [some (.inr (.inr (4, 0, 0, 0))), some (.inl (nI c)), some (.inl (nI 1)), none, none, none, none]) RX4 rfl (by decide) rfl rfl (Nat.le_of_ble_eq_true rfl) (fun E C X => ?_)
    refine cr_iload_n (pc := 0) C dX4_syncsForRead_0 rfl ?_
    refine cr_dS (pc := 1) C (sm_isClient1 hc) rfl gX4_syncsForRead_X4_isClient rfl dX4_syncsForRead_1 hsX4_isClient rfl ⟨rfl, rfl, Nat.le_of_ble_eq_true rfl, Nat.le_of_ble_eq_true rfl⟩ (Nat.le_of_ble_eq_true rfl) rfl ?_
    refine cr_if_eq_f (pc := 4) (tgt := 14) C dX4_syncsForRead_4 (by decide) (by decide) ?_
    refine cr_iload_n (pc := 7) C dX4_syncsForRead_7 rfl ?_
    refine cr_dS (pc := 8) C (sm_isReplica1 (by decide)) rfl gX4_syncsForRead_X4_isReplica rfl dX4_syncsForRead_8 hsX4_isReplica rfl ⟨rfl, rfl, Nat.le_of_ble_eq_true rfl, Nat.le_of_ble_eq_true rfl⟩ (Nat.le_of_ble_eq_true rfl) rfl ?_
    refine cr_if_ne_t (pc := 11) (tgt := 21) C dX4_syncsForRead_11 (by decide) (by decide) ?_
    refine cr_mem (cg_sb_id M 20).symm ?_
    refine cr_iconst (pc := 21) (v := (-1)) C dX4_syncsForRead_21 (by decide) ?_
    refine cr_istore_n3 (pc := 22) C dX4_syncsForRead_22 (by decide) rfl ?_
    refine cr_iconst (pc := 23) (v := nI 0) C dX4_syncsForRead_23 (by decide) ?_
    refine cr_istore4 (pc := 24) C dX4_syncsForRead_24 (by decide) rfl ?_
    refine cr_iload (pc := 26) C dX4_syncsForRead_26 rfl ?_
    refine cr_bipush (pc := 28) (v := nI 8) C dX4_syncsForRead_28 (by decide) ?_
    refine cr_icmp_ge_f (pc := 30) (tgt := 110) C dX4_syncsForRead_30 (by decide) (by decide) ?_
    refine cr_iload (pc := 33) C dX4_syncsForRead_33 rfl ?_
    refine cr_iload_n (pc := 35) C dX4_syncsForRead_35 rfl ?_
    refine cr_ishr (pc := 36) C dX4_syncsForRead_36 ?_
    refine cr_iconst (pc := 37) (v := nI 1) C dX4_syncsForRead_37 (by decide) ?_
    refine cr_iand (pc := 38) C dX4_syncsForRead_38 ?_
    refine cr_if_ne_f (pc := 39) (tgt := 46) C dX4_syncsForRead_39 (by decide) (by decide) ?_
    refine cr_iconst (pc := 42) (v := nI 1) C dX4_syncsForRead_42 (by decide) ?_
    refine cr_goto (pc := 43) (tgt := 47) C dX4_syncsForRead_43 (by decide) ?_
    refine cr_istore5 (pc := 47) C dX4_syncsForRead_47 (by decide) rfl ?_
    refine cr_iload_n (pc := 49) C dX4_syncsForRead_49 rfl ?_
    refine cr_iconst (pc := 50) (v := (-1)) C dX4_syncsForRead_50 (by decide) ?_
    refine cr_icmp_eq_t (pc := 51) (tgt := 66) C dX4_syncsForRead_51 (by decide) (by decide) ?_
    refine cr_iconst (pc := 66) (v := nI 1) C dX4_syncsForRead_66 (by decide) ?_
    refine cr_goto (pc := 67) (tgt := 71) C dX4_syncsForRead_67 (by decide) ?_
    refine cr_istore6 (pc := 71) C dX4_syncsForRead_71 (by decide) rfl ?_
    refine cr_iload (pc := 73) C dX4_syncsForRead_73 rfl ?_
    refine cr_if_eq_f (pc := 75) (tgt := 102) C dX4_syncsForRead_75 (by decide) (by decide) ?_
    refine cr_iload (pc := 78) C dX4_syncsForRead_78 rfl ?_
    refine cr_if_eq_f (pc := 80) (tgt := 102) C dX4_syncsForRead_80 (by decide) (by decide) ?_
    refine cr_aload_n (pc := 83) C dX4_syncsForRead_83 rfl ?_
    refine cr_iload_n (pc := 84) C dX4_syncsForRead_84 rfl ?_
    refine cr_iload (pc := 85) C dX4_syncsForRead_85 rfl ?_
    refine cr_iconst (pc := 87) (v := nI 1) C dX4_syncsForRead_87 (by decide) ?_
    refine cr_iload_n (pc := 88) C dX4_syncsForRead_88 rfl ?_
    refine cr_ishl (pc := 89) C dX4_syncsForRead_89 ?_
    refine cr_ior (pc := 90) C dX4_syncsForRead_90 ?_
    refine cr_top (show nI 0 ||| nI 1 <<< (nI 1 &&& 31) = nI 2 by decide) ?_
    refine cr_dV (pc := 91) C (sm_rB hc (by decide) hI) rfl gX4_syncsForRead_X4_isReadBy rfl dX4_syncsForRead_91 (by first | rfl | assumption | (simp [cg_ok]; omega)) rfl hvX4_isReadBy rfl ⟨rfl, rfl, Nat.le_of_ble_eq_true rfl, Nat.le_of_ble_eq_true rfl⟩ (Nat.le_of_ble_eq_true rfl) rfl ?_
    refine cr_if_eq (pc := 94) (tgt := 102) C dX4_syncsForRead_94 (by decide) (fun h94 => ?_) (fun h94 => ?_)
    · have e0 := cg_bf h94
      refine cr_iload_n (pc := 102) C dX4_syncsForRead_102 rfl ?_
      refine cr_istore_n3 (pc := 103) C dX4_syncsForRead_103 (by decide) rfl ?_
      refine cr_iinc4 (pc := 104) (v := nI 1) C dX4_syncsForRead_104 (by decide) (by decide) rfl ?_
      refine cr_goto (pc := 107) (tgt := 26) C dX4_syncsForRead_107 (by decide) ?_
      refine cr_iload (pc := 26) C dX4_syncsForRead_26 rfl ?_
      refine cr_bipush (pc := 28) (v := nI 8) C dX4_syncsForRead_28 (by decide) ?_
      refine cr_icmp_ge_f (pc := 30) (tgt := 110) C dX4_syncsForRead_30 (by decide) (by decide) ?_
      refine cr_iload (pc := 33) C dX4_syncsForRead_33 rfl ?_
      refine cr_iload_n (pc := 35) C dX4_syncsForRead_35 rfl ?_
      refine cr_ishr (pc := 36) C dX4_syncsForRead_36 ?_
      refine cr_iconst (pc := 37) (v := nI 1) C dX4_syncsForRead_37 (by decide) ?_
      refine cr_iand (pc := 38) C dX4_syncsForRead_38 ?_
      refine cr_if_ne_f (pc := 39) (tgt := 46) C dX4_syncsForRead_39 (by decide) (by decide) ?_
      refine cr_iconst (pc := 42) (v := nI 1) C dX4_syncsForRead_42 (by decide) ?_
      refine cr_goto (pc := 43) (tgt := 47) C dX4_syncsForRead_43 (by decide) ?_
      refine cr_istore5 (pc := 47) C dX4_syncsForRead_47 (by decide) rfl ?_
      refine cr_iload_n (pc := 49) C dX4_syncsForRead_49 rfl ?_
      refine cr_iconst (pc := 50) (v := (-1)) C dX4_syncsForRead_50 (by decide) ?_
      refine cr_icmp_eq_t (pc := 51) (tgt := 66) C dX4_syncsForRead_51 (by decide) (by decide) ?_
      refine cr_iconst (pc := 66) (v := nI 1) C dX4_syncsForRead_66 (by decide) ?_
      refine cr_goto (pc := 67) (tgt := 71) C dX4_syncsForRead_67 (by decide) ?_
      refine cr_istore6 (pc := 71) C dX4_syncsForRead_71 (by decide) rfl ?_
      refine cr_iload (pc := 73) C dX4_syncsForRead_73 rfl ?_
      refine cr_if_eq_f (pc := 75) (tgt := 102) C dX4_syncsForRead_75 (by decide) (by decide) ?_
      refine cr_iload (pc := 78) C dX4_syncsForRead_78 rfl ?_
      refine cr_if_eq_f (pc := 80) (tgt := 102) C dX4_syncsForRead_80 (by decide) (by decide) ?_
      refine cr_aload_n (pc := 83) C dX4_syncsForRead_83 rfl ?_
      refine cr_iload_n (pc := 84) C dX4_syncsForRead_84 rfl ?_
      refine cr_iload (pc := 85) C dX4_syncsForRead_85 rfl ?_
      refine cr_iconst (pc := 87) (v := nI 1) C dX4_syncsForRead_87 (by decide) ?_
      refine cr_iload_n (pc := 88) C dX4_syncsForRead_88 rfl ?_
      refine cr_ishl (pc := 89) C dX4_syncsForRead_89 ?_
      refine cr_ior (pc := 90) C dX4_syncsForRead_90 ?_
      refine cr_top (show nI 1 ||| nI 1 <<< (nI 1 &&& 31) = nI 3 by decide) ?_
      refine cr_dV (pc := 91) C (sm_rB hc (by decide) hI) rfl gX4_syncsForRead_X4_isReadBy rfl dX4_syncsForRead_91 (by first | rfl | assumption | (simp [cg_ok]; omega)) rfl hvX4_isReadBy rfl ⟨rfl, rfl, Nat.le_of_ble_eq_true rfl, Nat.le_of_ble_eq_true rfl⟩ (Nat.le_of_ble_eq_true rfl) rfl ?_
      refine cr_if_eq (pc := 94) (tgt := 102) C dX4_syncsForRead_94 (by decide) (fun h94 => ?_) (fun h94 => ?_)
      · have e1 := cg_bf h94
        refine cr_iload_n (pc := 102) C dX4_syncsForRead_102 rfl ?_
        refine cr_istore_n3 (pc := 103) C dX4_syncsForRead_103 (by decide) rfl ?_
        refine cr_iinc4 (pc := 104) (v := nI 2) C dX4_syncsForRead_104 (by decide) (by decide) rfl ?_
        refine cr_goto (pc := 107) (tgt := 26) C dX4_syncsForRead_107 (by decide) ?_
        refine cr_iload (pc := 26) C dX4_syncsForRead_26 rfl ?_
        refine cr_bipush (pc := 28) (v := nI 8) C dX4_syncsForRead_28 (by decide) ?_
        refine cr_icmp_ge_f (pc := 30) (tgt := 110) C dX4_syncsForRead_30 (by decide) (by decide) ?_
        refine cr_iload (pc := 33) C dX4_syncsForRead_33 rfl ?_
        refine cr_iload_n (pc := 35) C dX4_syncsForRead_35 rfl ?_
        refine cr_ishr (pc := 36) C dX4_syncsForRead_36 ?_
        refine cr_iconst (pc := 37) (v := nI 1) C dX4_syncsForRead_37 (by decide) ?_
        refine cr_iand (pc := 38) C dX4_syncsForRead_38 ?_
        refine cr_if_ne_t (pc := 39) (tgt := 46) C dX4_syncsForRead_39 (by decide) (by decide) ?_
        refine cr_iconst (pc := 46) (v := nI 0) C dX4_syncsForRead_46 (by decide) ?_
        refine cr_istore5 (pc := 47) C dX4_syncsForRead_47 (by decide) rfl ?_
        refine cr_iload_n (pc := 49) C dX4_syncsForRead_49 rfl ?_
        refine cr_iconst (pc := 50) (v := (-1)) C dX4_syncsForRead_50 (by decide) ?_
        refine cr_icmp_eq_t (pc := 51) (tgt := 66) C dX4_syncsForRead_51 (by decide) (by decide) ?_
        refine cr_iconst (pc := 66) (v := nI 1) C dX4_syncsForRead_66 (by decide) ?_
        refine cr_goto (pc := 67) (tgt := 71) C dX4_syncsForRead_67 (by decide) ?_
        refine cr_istore6 (pc := 71) C dX4_syncsForRead_71 (by decide) rfl ?_
        refine cr_iload (pc := 73) C dX4_syncsForRead_73 rfl ?_
        refine cr_if_eq_t (pc := 75) (tgt := 102) C dX4_syncsForRead_75 (by decide) (by decide) ?_
        refine cr_iload_n (pc := 102) C dX4_syncsForRead_102 rfl ?_
        refine cr_istore_n3 (pc := 103) C dX4_syncsForRead_103 (by decide) rfl ?_
        refine cr_iinc4 (pc := 104) (v := nI 3) C dX4_syncsForRead_104 (by decide) (by decide) rfl ?_
        refine cr_goto (pc := 107) (tgt := 26) C dX4_syncsForRead_107 (by decide) ?_
        refine cr_iload (pc := 26) C dX4_syncsForRead_26 rfl ?_
        refine cr_bipush (pc := 28) (v := nI 8) C dX4_syncsForRead_28 (by decide) ?_
        refine cr_icmp_ge_f (pc := 30) (tgt := 110) C dX4_syncsForRead_30 (by decide) (by decide) ?_
        refine cr_iload (pc := 33) C dX4_syncsForRead_33 rfl ?_
        refine cr_iload_n (pc := 35) C dX4_syncsForRead_35 rfl ?_
        refine cr_ishr (pc := 36) C dX4_syncsForRead_36 ?_
        refine cr_iconst (pc := 37) (v := nI 1) C dX4_syncsForRead_37 (by decide) ?_
        refine cr_iand (pc := 38) C dX4_syncsForRead_38 ?_
        refine cr_if_ne_t (pc := 39) (tgt := 46) C dX4_syncsForRead_39 (by decide) (by decide) ?_
        refine cr_iconst (pc := 46) (v := nI 0) C dX4_syncsForRead_46 (by decide) ?_
        refine cr_istore5 (pc := 47) C dX4_syncsForRead_47 (by decide) rfl ?_
        refine cr_iload_n (pc := 49) C dX4_syncsForRead_49 rfl ?_
        refine cr_iconst (pc := 50) (v := (-1)) C dX4_syncsForRead_50 (by decide) ?_
        refine cr_icmp_eq_t (pc := 51) (tgt := 66) C dX4_syncsForRead_51 (by decide) (by decide) ?_
        refine cr_iconst (pc := 66) (v := nI 1) C dX4_syncsForRead_66 (by decide) ?_
        refine cr_goto (pc := 67) (tgt := 71) C dX4_syncsForRead_67 (by decide) ?_
        refine cr_istore6 (pc := 71) C dX4_syncsForRead_71 (by decide) rfl ?_
        refine cr_iload (pc := 73) C dX4_syncsForRead_73 rfl ?_
        refine cr_if_eq_t (pc := 75) (tgt := 102) C dX4_syncsForRead_75 (by decide) (by decide) ?_
        refine cr_iload_n (pc := 102) C dX4_syncsForRead_102 rfl ?_
        refine cr_istore_n3 (pc := 103) C dX4_syncsForRead_103 (by decide) rfl ?_
        refine cr_iinc4 (pc := 104) (v := nI 4) C dX4_syncsForRead_104 (by decide) (by decide) rfl ?_
        refine cr_goto (pc := 107) (tgt := 26) C dX4_syncsForRead_107 (by decide) ?_
        refine cr_iload (pc := 26) C dX4_syncsForRead_26 rfl ?_
        refine cr_bipush (pc := 28) (v := nI 8) C dX4_syncsForRead_28 (by decide) ?_
        refine cr_icmp_ge_f (pc := 30) (tgt := 110) C dX4_syncsForRead_30 (by decide) (by decide) ?_
        refine cr_iload (pc := 33) C dX4_syncsForRead_33 rfl ?_
        refine cr_iload_n (pc := 35) C dX4_syncsForRead_35 rfl ?_
        refine cr_ishr (pc := 36) C dX4_syncsForRead_36 ?_
        refine cr_iconst (pc := 37) (v := nI 1) C dX4_syncsForRead_37 (by decide) ?_
        refine cr_iand (pc := 38) C dX4_syncsForRead_38 ?_
        refine cr_if_ne_f (pc := 39) (tgt := 46) C dX4_syncsForRead_39 (by decide) (by decide) ?_
        refine cr_iconst (pc := 42) (v := nI 1) C dX4_syncsForRead_42 (by decide) ?_
        refine cr_goto (pc := 43) (tgt := 47) C dX4_syncsForRead_43 (by decide) ?_
        refine cr_istore5 (pc := 47) C dX4_syncsForRead_47 (by decide) rfl ?_
        refine cr_iload_n (pc := 49) C dX4_syncsForRead_49 rfl ?_
        refine cr_iconst (pc := 50) (v := (-1)) C dX4_syncsForRead_50 (by decide) ?_
        refine cr_icmp_eq_t (pc := 51) (tgt := 66) C dX4_syncsForRead_51 (by decide) (by decide) ?_
        refine cr_iconst (pc := 66) (v := nI 1) C dX4_syncsForRead_66 (by decide) ?_
        refine cr_goto (pc := 67) (tgt := 71) C dX4_syncsForRead_67 (by decide) ?_
        refine cr_istore6 (pc := 71) C dX4_syncsForRead_71 (by decide) rfl ?_
        refine cr_iload (pc := 73) C dX4_syncsForRead_73 rfl ?_
        refine cr_if_eq_f (pc := 75) (tgt := 102) C dX4_syncsForRead_75 (by decide) (by decide) ?_
        refine cr_iload (pc := 78) C dX4_syncsForRead_78 rfl ?_
        refine cr_if_eq_f (pc := 80) (tgt := 102) C dX4_syncsForRead_80 (by decide) (by decide) ?_
        refine cr_aload_n (pc := 83) C dX4_syncsForRead_83 rfl ?_
        refine cr_iload_n (pc := 84) C dX4_syncsForRead_84 rfl ?_
        refine cr_iload (pc := 85) C dX4_syncsForRead_85 rfl ?_
        refine cr_iconst (pc := 87) (v := nI 1) C dX4_syncsForRead_87 (by decide) ?_
        refine cr_iload_n (pc := 88) C dX4_syncsForRead_88 rfl ?_
        refine cr_ishl (pc := 89) C dX4_syncsForRead_89 ?_
        refine cr_ior (pc := 90) C dX4_syncsForRead_90 ?_
        refine cr_top (show nI 4 ||| nI 1 <<< (nI 1 &&& 31) = nI 6 by decide) ?_
        refine cr_dV (pc := 91) C (sm_rB hc (by decide) hI) rfl gX4_syncsForRead_X4_isReadBy rfl dX4_syncsForRead_91 (by first | rfl | assumption | (simp [cg_ok]; omega)) rfl hvX4_isReadBy rfl ⟨rfl, rfl, Nat.le_of_ble_eq_true rfl, Nat.le_of_ble_eq_true rfl⟩ (Nat.le_of_ble_eq_true rfl) rfl ?_
        refine cr_if_eq (pc := 94) (tgt := 102) C dX4_syncsForRead_94 (by decide) (fun h94 => ?_) (fun h94 => ?_)
        · have e4 := cg_bf h94
          refine cr_iload_n (pc := 102) C dX4_syncsForRead_102 rfl ?_
          refine cr_istore_n3 (pc := 103) C dX4_syncsForRead_103 (by decide) rfl ?_
          refine cr_iinc4 (pc := 104) (v := nI 5) C dX4_syncsForRead_104 (by decide) (by decide) rfl ?_
          refine cr_goto (pc := 107) (tgt := 26) C dX4_syncsForRead_107 (by decide) ?_
          refine cr_iload (pc := 26) C dX4_syncsForRead_26 rfl ?_
          refine cr_bipush (pc := 28) (v := nI 8) C dX4_syncsForRead_28 (by decide) ?_
          refine cr_icmp_ge_f (pc := 30) (tgt := 110) C dX4_syncsForRead_30 (by decide) (by decide) ?_
          refine cr_iload (pc := 33) C dX4_syncsForRead_33 rfl ?_
          refine cr_iload_n (pc := 35) C dX4_syncsForRead_35 rfl ?_
          refine cr_ishr (pc := 36) C dX4_syncsForRead_36 ?_
          refine cr_iconst (pc := 37) (v := nI 1) C dX4_syncsForRead_37 (by decide) ?_
          refine cr_iand (pc := 38) C dX4_syncsForRead_38 ?_
          refine cr_if_ne_f (pc := 39) (tgt := 46) C dX4_syncsForRead_39 (by decide) (by decide) ?_
          refine cr_iconst (pc := 42) (v := nI 1) C dX4_syncsForRead_42 (by decide) ?_
          refine cr_goto (pc := 43) (tgt := 47) C dX4_syncsForRead_43 (by decide) ?_
          refine cr_istore5 (pc := 47) C dX4_syncsForRead_47 (by decide) rfl ?_
          refine cr_iload_n (pc := 49) C dX4_syncsForRead_49 rfl ?_
          refine cr_iconst (pc := 50) (v := (-1)) C dX4_syncsForRead_50 (by decide) ?_
          refine cr_icmp_eq_t (pc := 51) (tgt := 66) C dX4_syncsForRead_51 (by decide) (by decide) ?_
          refine cr_iconst (pc := 66) (v := nI 1) C dX4_syncsForRead_66 (by decide) ?_
          refine cr_goto (pc := 67) (tgt := 71) C dX4_syncsForRead_67 (by decide) ?_
          refine cr_istore6 (pc := 71) C dX4_syncsForRead_71 (by decide) rfl ?_
          refine cr_iload (pc := 73) C dX4_syncsForRead_73 rfl ?_
          refine cr_if_eq_f (pc := 75) (tgt := 102) C dX4_syncsForRead_75 (by decide) (by decide) ?_
          refine cr_iload (pc := 78) C dX4_syncsForRead_78 rfl ?_
          refine cr_if_eq_f (pc := 80) (tgt := 102) C dX4_syncsForRead_80 (by decide) (by decide) ?_
          refine cr_aload_n (pc := 83) C dX4_syncsForRead_83 rfl ?_
          refine cr_iload_n (pc := 84) C dX4_syncsForRead_84 rfl ?_
          refine cr_iload (pc := 85) C dX4_syncsForRead_85 rfl ?_
          refine cr_iconst (pc := 87) (v := nI 1) C dX4_syncsForRead_87 (by decide) ?_
          refine cr_iload_n (pc := 88) C dX4_syncsForRead_88 rfl ?_
          refine cr_ishl (pc := 89) C dX4_syncsForRead_89 ?_
          refine cr_ior (pc := 90) C dX4_syncsForRead_90 ?_
          refine cr_top (show nI 5 ||| nI 1 <<< (nI 1 &&& 31) = nI 7 by decide) ?_
          refine cr_dV (pc := 91) C (sm_rB hc (by decide) hI) rfl gX4_syncsForRead_X4_isReadBy rfl dX4_syncsForRead_91 (by first | rfl | assumption | (simp [cg_ok]; omega)) rfl hvX4_isReadBy rfl ⟨rfl, rfl, Nat.le_of_ble_eq_true rfl, Nat.le_of_ble_eq_true rfl⟩ (Nat.le_of_ble_eq_true rfl) rfl ?_
          refine cr_if_eq (pc := 94) (tgt := 102) C dX4_syncsForRead_94 (by decide) (fun h94 => ?_) (fun h94 => ?_)
          · have e5 := cg_bf h94
            refine cr_iload_n (pc := 102) C dX4_syncsForRead_102 rfl ?_
            refine cr_istore_n3 (pc := 103) C dX4_syncsForRead_103 (by decide) rfl ?_
            refine cr_iinc4 (pc := 104) (v := nI 6) C dX4_syncsForRead_104 (by decide) (by decide) rfl ?_
            refine cr_goto (pc := 107) (tgt := 26) C dX4_syncsForRead_107 (by decide) ?_
            refine cr_iload (pc := 26) C dX4_syncsForRead_26 rfl ?_
            refine cr_bipush (pc := 28) (v := nI 8) C dX4_syncsForRead_28 (by decide) ?_
            refine cr_icmp_ge_f (pc := 30) (tgt := 110) C dX4_syncsForRead_30 (by decide) (by decide) ?_
            refine cr_iload (pc := 33) C dX4_syncsForRead_33 rfl ?_
            refine cr_iload_n (pc := 35) C dX4_syncsForRead_35 rfl ?_
            refine cr_ishr (pc := 36) C dX4_syncsForRead_36 ?_
            refine cr_iconst (pc := 37) (v := nI 1) C dX4_syncsForRead_37 (by decide) ?_
            refine cr_iand (pc := 38) C dX4_syncsForRead_38 ?_
            refine cr_if_ne_t (pc := 39) (tgt := 46) C dX4_syncsForRead_39 (by decide) (by decide) ?_
            refine cr_iconst (pc := 46) (v := nI 0) C dX4_syncsForRead_46 (by decide) ?_
            refine cr_istore5 (pc := 47) C dX4_syncsForRead_47 (by decide) rfl ?_
            refine cr_iload_n (pc := 49) C dX4_syncsForRead_49 rfl ?_
            refine cr_iconst (pc := 50) (v := (-1)) C dX4_syncsForRead_50 (by decide) ?_
            refine cr_icmp_eq_t (pc := 51) (tgt := 66) C dX4_syncsForRead_51 (by decide) (by decide) ?_
            refine cr_iconst (pc := 66) (v := nI 1) C dX4_syncsForRead_66 (by decide) ?_
            refine cr_goto (pc := 67) (tgt := 71) C dX4_syncsForRead_67 (by decide) ?_
            refine cr_istore6 (pc := 71) C dX4_syncsForRead_71 (by decide) rfl ?_
            refine cr_iload (pc := 73) C dX4_syncsForRead_73 rfl ?_
            refine cr_if_eq_t (pc := 75) (tgt := 102) C dX4_syncsForRead_75 (by decide) (by decide) ?_
            refine cr_iload_n (pc := 102) C dX4_syncsForRead_102 rfl ?_
            refine cr_istore_n3 (pc := 103) C dX4_syncsForRead_103 (by decide) rfl ?_
            refine cr_iinc4 (pc := 104) (v := nI 7) C dX4_syncsForRead_104 (by decide) (by decide) rfl ?_
            refine cr_goto (pc := 107) (tgt := 26) C dX4_syncsForRead_107 (by decide) ?_
            refine cr_iload (pc := 26) C dX4_syncsForRead_26 rfl ?_
            refine cr_bipush (pc := 28) (v := nI 8) C dX4_syncsForRead_28 (by decide) ?_
            refine cr_icmp_ge_f (pc := 30) (tgt := 110) C dX4_syncsForRead_30 (by decide) (by decide) ?_
            refine cr_iload (pc := 33) C dX4_syncsForRead_33 rfl ?_
            refine cr_iload_n (pc := 35) C dX4_syncsForRead_35 rfl ?_
            refine cr_ishr (pc := 36) C dX4_syncsForRead_36 ?_
            refine cr_iconst (pc := 37) (v := nI 1) C dX4_syncsForRead_37 (by decide) ?_
            refine cr_iand (pc := 38) C dX4_syncsForRead_38 ?_
            refine cr_if_ne_t (pc := 39) (tgt := 46) C dX4_syncsForRead_39 (by decide) (by decide) ?_
            refine cr_iconst (pc := 46) (v := nI 0) C dX4_syncsForRead_46 (by decide) ?_
            refine cr_istore5 (pc := 47) C dX4_syncsForRead_47 (by decide) rfl ?_
            refine cr_iload_n (pc := 49) C dX4_syncsForRead_49 rfl ?_
            refine cr_iconst (pc := 50) (v := (-1)) C dX4_syncsForRead_50 (by decide) ?_
            refine cr_icmp_eq_t (pc := 51) (tgt := 66) C dX4_syncsForRead_51 (by decide) (by decide) ?_
            refine cr_iconst (pc := 66) (v := nI 1) C dX4_syncsForRead_66 (by decide) ?_
            refine cr_goto (pc := 67) (tgt := 71) C dX4_syncsForRead_67 (by decide) ?_
            refine cr_istore6 (pc := 71) C dX4_syncsForRead_71 (by decide) rfl ?_
            refine cr_iload (pc := 73) C dX4_syncsForRead_73 rfl ?_
            refine cr_if_eq_t (pc := 75) (tgt := 102) C dX4_syncsForRead_75 (by decide) (by decide) ?_
            refine cr_iload_n (pc := 102) C dX4_syncsForRead_102 rfl ?_
            refine cr_istore_n3 (pc := 103) C dX4_syncsForRead_103 (by decide) rfl ?_
            refine cr_iinc4 (pc := 104) (v := nI 8) C dX4_syncsForRead_104 (by decide) (by decide) rfl ?_
            refine cr_goto (pc := 107) (tgt := 26) C dX4_syncsForRead_107 (by decide) ?_
            refine cr_iload (pc := 26) C dX4_syncsForRead_26 rfl ?_
            refine cr_bipush (pc := 28) (v := nI 8) C dX4_syncsForRead_28 (by decide) ?_
            refine cr_icmp_ge_t (pc := 30) (tgt := 110) C dX4_syncsForRead_30 (by decide) (by decide) ?_
            refine cr_iload_n (pc := 110) C dX4_syncsForRead_110 rfl ?_
            refine cr_ireturn (pc := 111) C X dX4_syncsForRead_111 ?_
            exact ⟨by unfold cg_sf cg_s4; simp [*], cg_sb_id M 20⟩
          · have e5 := cg_bt h94
            refine cr_iload (pc := 97) C dX4_syncsForRead_97 rfl ?_
            refine cr_goto (pc := 99) (tgt := 103) C dX4_syncsForRead_99 (by decide) ?_
            refine cr_istore_n3 (pc := 103) C dX4_syncsForRead_103 (by decide) rfl ?_
            refine cr_iinc4 (pc := 104) (v := nI 6) C dX4_syncsForRead_104 (by decide) (by decide) rfl ?_
            refine cr_goto (pc := 107) (tgt := 26) C dX4_syncsForRead_107 (by decide) ?_
            refine cr_iload (pc := 26) C dX4_syncsForRead_26 rfl ?_
            refine cr_bipush (pc := 28) (v := nI 8) C dX4_syncsForRead_28 (by decide) ?_
            refine cr_icmp_ge_f (pc := 30) (tgt := 110) C dX4_syncsForRead_30 (by decide) (by decide) ?_
            refine cr_iload (pc := 33) C dX4_syncsForRead_33 rfl ?_
            refine cr_iload_n (pc := 35) C dX4_syncsForRead_35 rfl ?_
            refine cr_ishr (pc := 36) C dX4_syncsForRead_36 ?_
            refine cr_iconst (pc := 37) (v := nI 1) C dX4_syncsForRead_37 (by decide) ?_
            refine cr_iand (pc := 38) C dX4_syncsForRead_38 ?_
            refine cr_if_ne_t (pc := 39) (tgt := 46) C dX4_syncsForRead_39 (by decide) (by decide) ?_
            refine cr_iconst (pc := 46) (v := nI 0) C dX4_syncsForRead_46 (by decide) ?_
            refine cr_istore5 (pc := 47) C dX4_syncsForRead_47 (by decide) rfl ?_
            refine cr_iload_n (pc := 49) C dX4_syncsForRead_49 rfl ?_
            refine cr_iconst (pc := 50) (v := (-1)) C dX4_syncsForRead_50 (by decide) ?_
            refine cr_icmp_eq_f (pc := 51) (tgt := 66) C dX4_syncsForRead_51 (by decide) (by decide) ?_
            refine cr_iload (pc := 54) C dX4_syncsForRead_54 rfl ?_
            refine cr_dS (pc := 56) C (sm_bits (by decide)) rfl gX4_syncsForRead_X4_bits rfl dX4_syncsForRead_56 hsX4_bits rfl ⟨rfl, rfl, Nat.le_of_ble_eq_true rfl, Nat.le_of_ble_eq_true rfl⟩ (Nat.le_of_ble_eq_true rfl) rfl ?_
            rw [show cg_pc 6 = 2 by decide]
            refine cr_iload_n (pc := 59) C dX4_syncsForRead_59 rfl ?_
            refine cr_dS (pc := 60) C (sm_bits (by decide)) rfl gX4_syncsForRead_X4_bits rfl dX4_syncsForRead_60 hsX4_bits rfl ⟨rfl, rfl, Nat.le_of_ble_eq_true rfl, Nat.le_of_ble_eq_true rfl⟩ (Nat.le_of_ble_eq_true rfl) rfl ?_
            rw [show cg_pc 5 = 2 by decide]
            refine cr_icmp_ge_t (pc := 63) (tgt := 70) C dX4_syncsForRead_63 (by decide) (by decide) ?_
            refine cr_iconst (pc := 70) (v := nI 0) C dX4_syncsForRead_70 (by decide) ?_
            refine cr_istore6 (pc := 71) C dX4_syncsForRead_71 (by decide) rfl ?_
            refine cr_iload (pc := 73) C dX4_syncsForRead_73 rfl ?_
            refine cr_if_eq_t (pc := 75) (tgt := 102) C dX4_syncsForRead_75 (by decide) (by decide) ?_
            refine cr_iload_n (pc := 102) C dX4_syncsForRead_102 rfl ?_
            refine cr_istore_n3 (pc := 103) C dX4_syncsForRead_103 (by decide) rfl ?_
            refine cr_iinc4 (pc := 104) (v := nI 7) C dX4_syncsForRead_104 (by decide) (by decide) rfl ?_
            refine cr_goto (pc := 107) (tgt := 26) C dX4_syncsForRead_107 (by decide) ?_
            refine cr_iload (pc := 26) C dX4_syncsForRead_26 rfl ?_
            refine cr_bipush (pc := 28) (v := nI 8) C dX4_syncsForRead_28 (by decide) ?_
            refine cr_icmp_ge_f (pc := 30) (tgt := 110) C dX4_syncsForRead_30 (by decide) (by decide) ?_
            refine cr_iload (pc := 33) C dX4_syncsForRead_33 rfl ?_
            refine cr_iload_n (pc := 35) C dX4_syncsForRead_35 rfl ?_
            refine cr_ishr (pc := 36) C dX4_syncsForRead_36 ?_
            refine cr_iconst (pc := 37) (v := nI 1) C dX4_syncsForRead_37 (by decide) ?_
            refine cr_iand (pc := 38) C dX4_syncsForRead_38 ?_
            refine cr_if_ne_t (pc := 39) (tgt := 46) C dX4_syncsForRead_39 (by decide) (by decide) ?_
            refine cr_iconst (pc := 46) (v := nI 0) C dX4_syncsForRead_46 (by decide) ?_
            refine cr_istore5 (pc := 47) C dX4_syncsForRead_47 (by decide) rfl ?_
            refine cr_iload_n (pc := 49) C dX4_syncsForRead_49 rfl ?_
            refine cr_iconst (pc := 50) (v := (-1)) C dX4_syncsForRead_50 (by decide) ?_
            refine cr_icmp_eq_f (pc := 51) (tgt := 66) C dX4_syncsForRead_51 (by decide) (by decide) ?_
            refine cr_iload (pc := 54) C dX4_syncsForRead_54 rfl ?_
            refine cr_dS (pc := 56) C (sm_bits (by decide)) rfl gX4_syncsForRead_X4_bits rfl dX4_syncsForRead_56 hsX4_bits rfl ⟨rfl, rfl, Nat.le_of_ble_eq_true rfl, Nat.le_of_ble_eq_true rfl⟩ (Nat.le_of_ble_eq_true rfl) rfl ?_
            rw [show cg_pc 7 = 3 by decide]
            refine cr_iload_n (pc := 59) C dX4_syncsForRead_59 rfl ?_
            refine cr_dS (pc := 60) C (sm_bits (by decide)) rfl gX4_syncsForRead_X4_bits rfl dX4_syncsForRead_60 hsX4_bits rfl ⟨rfl, rfl, Nat.le_of_ble_eq_true rfl, Nat.le_of_ble_eq_true rfl⟩ (Nat.le_of_ble_eq_true rfl) rfl ?_
            rw [show cg_pc 5 = 2 by decide]
            refine cr_icmp_ge_t (pc := 63) (tgt := 70) C dX4_syncsForRead_63 (by decide) (by decide) ?_
            refine cr_iconst (pc := 70) (v := nI 0) C dX4_syncsForRead_70 (by decide) ?_
            refine cr_istore6 (pc := 71) C dX4_syncsForRead_71 (by decide) rfl ?_
            refine cr_iload (pc := 73) C dX4_syncsForRead_73 rfl ?_
            refine cr_if_eq_t (pc := 75) (tgt := 102) C dX4_syncsForRead_75 (by decide) (by decide) ?_
            refine cr_iload_n (pc := 102) C dX4_syncsForRead_102 rfl ?_
            refine cr_istore_n3 (pc := 103) C dX4_syncsForRead_103 (by decide) rfl ?_
            refine cr_iinc4 (pc := 104) (v := nI 8) C dX4_syncsForRead_104 (by decide) (by decide) rfl ?_
            refine cr_goto (pc := 107) (tgt := 26) C dX4_syncsForRead_107 (by decide) ?_
            refine cr_iload (pc := 26) C dX4_syncsForRead_26 rfl ?_
            refine cr_bipush (pc := 28) (v := nI 8) C dX4_syncsForRead_28 (by decide) ?_
            refine cr_icmp_ge_t (pc := 30) (tgt := 110) C dX4_syncsForRead_30 (by decide) (by decide) ?_
            refine cr_iload_n (pc := 110) C dX4_syncsForRead_110 rfl ?_
            refine cr_ireturn (pc := 111) C X dX4_syncsForRead_111 ?_
            exact ⟨by unfold cg_sf cg_s4; simp [*], cg_sb_id M 20⟩
        · have e4 := cg_bt h94
          refine cr_iload (pc := 97) C dX4_syncsForRead_97 rfl ?_
          refine cr_goto (pc := 99) (tgt := 103) C dX4_syncsForRead_99 (by decide) ?_
          refine cr_istore_n3 (pc := 103) C dX4_syncsForRead_103 (by decide) rfl ?_
          refine cr_iinc4 (pc := 104) (v := nI 5) C dX4_syncsForRead_104 (by decide) (by decide) rfl ?_
          refine cr_goto (pc := 107) (tgt := 26) C dX4_syncsForRead_107 (by decide) ?_
          refine cr_iload (pc := 26) C dX4_syncsForRead_26 rfl ?_
          refine cr_bipush (pc := 28) (v := nI 8) C dX4_syncsForRead_28 (by decide) ?_
          refine cr_icmp_ge_f (pc := 30) (tgt := 110) C dX4_syncsForRead_30 (by decide) (by decide) ?_
          refine cr_iload (pc := 33) C dX4_syncsForRead_33 rfl ?_
          refine cr_iload_n (pc := 35) C dX4_syncsForRead_35 rfl ?_
          refine cr_ishr (pc := 36) C dX4_syncsForRead_36 ?_
          refine cr_iconst (pc := 37) (v := nI 1) C dX4_syncsForRead_37 (by decide) ?_
          refine cr_iand (pc := 38) C dX4_syncsForRead_38 ?_
          refine cr_if_ne_f (pc := 39) (tgt := 46) C dX4_syncsForRead_39 (by decide) (by decide) ?_
          refine cr_iconst (pc := 42) (v := nI 1) C dX4_syncsForRead_42 (by decide) ?_
          refine cr_goto (pc := 43) (tgt := 47) C dX4_syncsForRead_43 (by decide) ?_
          refine cr_istore5 (pc := 47) C dX4_syncsForRead_47 (by decide) rfl ?_
          refine cr_iload_n (pc := 49) C dX4_syncsForRead_49 rfl ?_
          refine cr_iconst (pc := 50) (v := (-1)) C dX4_syncsForRead_50 (by decide) ?_
          refine cr_icmp_eq_f (pc := 51) (tgt := 66) C dX4_syncsForRead_51 (by decide) (by decide) ?_
          refine cr_iload (pc := 54) C dX4_syncsForRead_54 rfl ?_
          refine cr_dS (pc := 56) C (sm_bits (by decide)) rfl gX4_syncsForRead_X4_bits rfl dX4_syncsForRead_56 hsX4_bits rfl ⟨rfl, rfl, Nat.le_of_ble_eq_true rfl, Nat.le_of_ble_eq_true rfl⟩ (Nat.le_of_ble_eq_true rfl) rfl ?_
          rw [show cg_pc 5 = 2 by decide]
          refine cr_iload_n (pc := 59) C dX4_syncsForRead_59 rfl ?_
          refine cr_dS (pc := 60) C (sm_bits (by decide)) rfl gX4_syncsForRead_X4_bits rfl dX4_syncsForRead_60 hsX4_bits rfl ⟨rfl, rfl, Nat.le_of_ble_eq_true rfl, Nat.le_of_ble_eq_true rfl⟩ (Nat.le_of_ble_eq_true rfl) rfl ?_
          rw [show cg_pc 4 = 1 by decide]
          refine cr_icmp_ge_t (pc := 63) (tgt := 70) C dX4_syncsForRead_63 (by decide) (by decide) ?_
          refine cr_iconst (pc := 70) (v := nI 0) C dX4_syncsForRead_70 (by decide) ?_
          refine cr_istore6 (pc := 71) C dX4_syncsForRead_71 (by decide) rfl ?_
          refine cr_iload (pc := 73) C dX4_syncsForRead_73 rfl ?_
          refine cr_if_eq_f (pc := 75) (tgt := 102) C dX4_syncsForRead_75 (by decide) (by decide) ?_
          refine cr_iload (pc := 78) C dX4_syncsForRead_78 rfl ?_
          refine cr_if_eq_t (pc := 80) (tgt := 102) C dX4_syncsForRead_80 (by decide) (by decide) ?_
          refine cr_iload_n (pc := 102) C dX4_syncsForRead_102 rfl ?_
          refine cr_istore_n3 (pc := 103) C dX4_syncsForRead_103 (by decide) rfl ?_
          refine cr_iinc4 (pc := 104) (v := nI 6) C dX4_syncsForRead_104 (by decide) (by decide) rfl ?_
          refine cr_goto (pc := 107) (tgt := 26) C dX4_syncsForRead_107 (by decide) ?_
          refine cr_iload (pc := 26) C dX4_syncsForRead_26 rfl ?_
          refine cr_bipush (pc := 28) (v := nI 8) C dX4_syncsForRead_28 (by decide) ?_
          refine cr_icmp_ge_f (pc := 30) (tgt := 110) C dX4_syncsForRead_30 (by decide) (by decide) ?_
          refine cr_iload (pc := 33) C dX4_syncsForRead_33 rfl ?_
          refine cr_iload_n (pc := 35) C dX4_syncsForRead_35 rfl ?_
          refine cr_ishr (pc := 36) C dX4_syncsForRead_36 ?_
          refine cr_iconst (pc := 37) (v := nI 1) C dX4_syncsForRead_37 (by decide) ?_
          refine cr_iand (pc := 38) C dX4_syncsForRead_38 ?_
          refine cr_if_ne_t (pc := 39) (tgt := 46) C dX4_syncsForRead_39 (by decide) (by decide) ?_
          refine cr_iconst (pc := 46) (v := nI 0) C dX4_syncsForRead_46 (by decide) ?_
          refine cr_istore5 (pc := 47) C dX4_syncsForRead_47 (by decide) rfl ?_
          refine cr_iload_n (pc := 49) C dX4_syncsForRead_49 rfl ?_
          refine cr_iconst (pc := 50) (v := (-1)) C dX4_syncsForRead_50 (by decide) ?_
          refine cr_icmp_eq_f (pc := 51) (tgt := 66) C dX4_syncsForRead_51 (by decide) (by decide) ?_
          refine cr_iload (pc := 54) C dX4_syncsForRead_54 rfl ?_
          refine cr_dS (pc := 56) C (sm_bits (by decide)) rfl gX4_syncsForRead_X4_bits rfl dX4_syncsForRead_56 hsX4_bits rfl ⟨rfl, rfl, Nat.le_of_ble_eq_true rfl, Nat.le_of_ble_eq_true rfl⟩ (Nat.le_of_ble_eq_true rfl) rfl ?_
          rw [show cg_pc 6 = 2 by decide]
          refine cr_iload_n (pc := 59) C dX4_syncsForRead_59 rfl ?_
          refine cr_dS (pc := 60) C (sm_bits (by decide)) rfl gX4_syncsForRead_X4_bits rfl dX4_syncsForRead_60 hsX4_bits rfl ⟨rfl, rfl, Nat.le_of_ble_eq_true rfl, Nat.le_of_ble_eq_true rfl⟩ (Nat.le_of_ble_eq_true rfl) rfl ?_
          rw [show cg_pc 4 = 1 by decide]
          refine cr_icmp_ge_t (pc := 63) (tgt := 70) C dX4_syncsForRead_63 (by decide) (by decide) ?_
          refine cr_iconst (pc := 70) (v := nI 0) C dX4_syncsForRead_70 (by decide) ?_
          refine cr_istore6 (pc := 71) C dX4_syncsForRead_71 (by decide) rfl ?_
          refine cr_iload (pc := 73) C dX4_syncsForRead_73 rfl ?_
          refine cr_if_eq_t (pc := 75) (tgt := 102) C dX4_syncsForRead_75 (by decide) (by decide) ?_
          refine cr_iload_n (pc := 102) C dX4_syncsForRead_102 rfl ?_
          refine cr_istore_n3 (pc := 103) C dX4_syncsForRead_103 (by decide) rfl ?_
          refine cr_iinc4 (pc := 104) (v := nI 7) C dX4_syncsForRead_104 (by decide) (by decide) rfl ?_
          refine cr_goto (pc := 107) (tgt := 26) C dX4_syncsForRead_107 (by decide) ?_
          refine cr_iload (pc := 26) C dX4_syncsForRead_26 rfl ?_
          refine cr_bipush (pc := 28) (v := nI 8) C dX4_syncsForRead_28 (by decide) ?_
          refine cr_icmp_ge_f (pc := 30) (tgt := 110) C dX4_syncsForRead_30 (by decide) (by decide) ?_
          refine cr_iload (pc := 33) C dX4_syncsForRead_33 rfl ?_
          refine cr_iload_n (pc := 35) C dX4_syncsForRead_35 rfl ?_
          refine cr_ishr (pc := 36) C dX4_syncsForRead_36 ?_
          refine cr_iconst (pc := 37) (v := nI 1) C dX4_syncsForRead_37 (by decide) ?_
          refine cr_iand (pc := 38) C dX4_syncsForRead_38 ?_
          refine cr_if_ne_t (pc := 39) (tgt := 46) C dX4_syncsForRead_39 (by decide) (by decide) ?_
          refine cr_iconst (pc := 46) (v := nI 0) C dX4_syncsForRead_46 (by decide) ?_
          refine cr_istore5 (pc := 47) C dX4_syncsForRead_47 (by decide) rfl ?_
          refine cr_iload_n (pc := 49) C dX4_syncsForRead_49 rfl ?_
          refine cr_iconst (pc := 50) (v := (-1)) C dX4_syncsForRead_50 (by decide) ?_
          refine cr_icmp_eq_f (pc := 51) (tgt := 66) C dX4_syncsForRead_51 (by decide) (by decide) ?_
          refine cr_iload (pc := 54) C dX4_syncsForRead_54 rfl ?_
          refine cr_dS (pc := 56) C (sm_bits (by decide)) rfl gX4_syncsForRead_X4_bits rfl dX4_syncsForRead_56 hsX4_bits rfl ⟨rfl, rfl, Nat.le_of_ble_eq_true rfl, Nat.le_of_ble_eq_true rfl⟩ (Nat.le_of_ble_eq_true rfl) rfl ?_
          rw [show cg_pc 7 = 3 by decide]
          refine cr_iload_n (pc := 59) C dX4_syncsForRead_59 rfl ?_
          refine cr_dS (pc := 60) C (sm_bits (by decide)) rfl gX4_syncsForRead_X4_bits rfl dX4_syncsForRead_60 hsX4_bits rfl ⟨rfl, rfl, Nat.le_of_ble_eq_true rfl, Nat.le_of_ble_eq_true rfl⟩ (Nat.le_of_ble_eq_true rfl) rfl ?_
          rw [show cg_pc 4 = 1 by decide]
          refine cr_icmp_ge_t (pc := 63) (tgt := 70) C dX4_syncsForRead_63 (by decide) (by decide) ?_
          refine cr_iconst (pc := 70) (v := nI 0) C dX4_syncsForRead_70 (by decide) ?_
          refine cr_istore6 (pc := 71) C dX4_syncsForRead_71 (by decide) rfl ?_
          refine cr_iload (pc := 73) C dX4_syncsForRead_73 rfl ?_
          refine cr_if_eq_t (pc := 75) (tgt := 102) C dX4_syncsForRead_75 (by decide) (by decide) ?_
          refine cr_iload_n (pc := 102) C dX4_syncsForRead_102 rfl ?_
          refine cr_istore_n3 (pc := 103) C dX4_syncsForRead_103 (by decide) rfl ?_
          refine cr_iinc4 (pc := 104) (v := nI 8) C dX4_syncsForRead_104 (by decide) (by decide) rfl ?_
          refine cr_goto (pc := 107) (tgt := 26) C dX4_syncsForRead_107 (by decide) ?_
          refine cr_iload (pc := 26) C dX4_syncsForRead_26 rfl ?_
          refine cr_bipush (pc := 28) (v := nI 8) C dX4_syncsForRead_28 (by decide) ?_
          refine cr_icmp_ge_t (pc := 30) (tgt := 110) C dX4_syncsForRead_30 (by decide) (by decide) ?_
          refine cr_iload_n (pc := 110) C dX4_syncsForRead_110 rfl ?_
          refine cr_ireturn (pc := 111) C X dX4_syncsForRead_111 ?_
          exact ⟨by unfold cg_sf cg_s4; simp [*], cg_sb_id M 20⟩
      · have e1 := cg_bt h94
        refine cr_iload (pc := 97) C dX4_syncsForRead_97 rfl ?_
        refine cr_goto (pc := 99) (tgt := 103) C dX4_syncsForRead_99 (by decide) ?_
        refine cr_istore_n3 (pc := 103) C dX4_syncsForRead_103 (by decide) rfl ?_
        refine cr_iinc4 (pc := 104) (v := nI 2) C dX4_syncsForRead_104 (by decide) (by decide) rfl ?_
        refine cr_goto (pc := 107) (tgt := 26) C dX4_syncsForRead_107 (by decide) ?_
        refine cr_iload (pc := 26) C dX4_syncsForRead_26 rfl ?_
        refine cr_bipush (pc := 28) (v := nI 8) C dX4_syncsForRead_28 (by decide) ?_
        refine cr_icmp_ge_f (pc := 30) (tgt := 110) C dX4_syncsForRead_30 (by decide) (by decide) ?_
        refine cr_iload (pc := 33) C dX4_syncsForRead_33 rfl ?_
        refine cr_iload_n (pc := 35) C dX4_syncsForRead_35 rfl ?_
        refine cr_ishr (pc := 36) C dX4_syncsForRead_36 ?_
        refine cr_iconst (pc := 37) (v := nI 1) C dX4_syncsForRead_37 (by decide) ?_
        refine cr_iand (pc := 38) C dX4_syncsForRead_38 ?_
        refine cr_if_ne_t (pc := 39) (tgt := 46) C dX4_syncsForRead_39 (by decide) (by decide) ?_
        refine cr_iconst (pc := 46) (v := nI 0) C dX4_syncsForRead_46 (by decide) ?_
        refine cr_istore5 (pc := 47) C dX4_syncsForRead_47 (by decide) rfl ?_
        refine cr_iload_n (pc := 49) C dX4_syncsForRead_49 rfl ?_
        refine cr_iconst (pc := 50) (v := (-1)) C dX4_syncsForRead_50 (by decide) ?_
        refine cr_icmp_eq_f (pc := 51) (tgt := 66) C dX4_syncsForRead_51 (by decide) (by decide) ?_
        refine cr_iload (pc := 54) C dX4_syncsForRead_54 rfl ?_
        refine cr_dS (pc := 56) C (sm_bits (by decide)) rfl gX4_syncsForRead_X4_bits rfl dX4_syncsForRead_56 hsX4_bits rfl ⟨rfl, rfl, Nat.le_of_ble_eq_true rfl, Nat.le_of_ble_eq_true rfl⟩ (Nat.le_of_ble_eq_true rfl) rfl ?_
        rw [show cg_pc 2 = 1 by decide]
        refine cr_iload_n (pc := 59) C dX4_syncsForRead_59 rfl ?_
        refine cr_dS (pc := 60) C (sm_bits (by decide)) rfl gX4_syncsForRead_X4_bits rfl dX4_syncsForRead_60 hsX4_bits rfl ⟨rfl, rfl, Nat.le_of_ble_eq_true rfl, Nat.le_of_ble_eq_true rfl⟩ (Nat.le_of_ble_eq_true rfl) rfl ?_
        rw [show cg_pc 1 = 1 by decide]
        refine cr_icmp_ge_t (pc := 63) (tgt := 70) C dX4_syncsForRead_63 (by decide) (by decide) ?_
        refine cr_iconst (pc := 70) (v := nI 0) C dX4_syncsForRead_70 (by decide) ?_
        refine cr_istore6 (pc := 71) C dX4_syncsForRead_71 (by decide) rfl ?_
        refine cr_iload (pc := 73) C dX4_syncsForRead_73 rfl ?_
        refine cr_if_eq_t (pc := 75) (tgt := 102) C dX4_syncsForRead_75 (by decide) (by decide) ?_
        refine cr_iload_n (pc := 102) C dX4_syncsForRead_102 rfl ?_
        refine cr_istore_n3 (pc := 103) C dX4_syncsForRead_103 (by decide) rfl ?_
        refine cr_iinc4 (pc := 104) (v := nI 3) C dX4_syncsForRead_104 (by decide) (by decide) rfl ?_
        refine cr_goto (pc := 107) (tgt := 26) C dX4_syncsForRead_107 (by decide) ?_
        refine cr_iload (pc := 26) C dX4_syncsForRead_26 rfl ?_
        refine cr_bipush (pc := 28) (v := nI 8) C dX4_syncsForRead_28 (by decide) ?_
        refine cr_icmp_ge_f (pc := 30) (tgt := 110) C dX4_syncsForRead_30 (by decide) (by decide) ?_
        refine cr_iload (pc := 33) C dX4_syncsForRead_33 rfl ?_
        refine cr_iload_n (pc := 35) C dX4_syncsForRead_35 rfl ?_
        refine cr_ishr (pc := 36) C dX4_syncsForRead_36 ?_
        refine cr_iconst (pc := 37) (v := nI 1) C dX4_syncsForRead_37 (by decide) ?_
        refine cr_iand (pc := 38) C dX4_syncsForRead_38 ?_
        refine cr_if_ne_t (pc := 39) (tgt := 46) C dX4_syncsForRead_39 (by decide) (by decide) ?_
        refine cr_iconst (pc := 46) (v := nI 0) C dX4_syncsForRead_46 (by decide) ?_
        refine cr_istore5 (pc := 47) C dX4_syncsForRead_47 (by decide) rfl ?_
        refine cr_iload_n (pc := 49) C dX4_syncsForRead_49 rfl ?_
        refine cr_iconst (pc := 50) (v := (-1)) C dX4_syncsForRead_50 (by decide) ?_
        refine cr_icmp_eq_f (pc := 51) (tgt := 66) C dX4_syncsForRead_51 (by decide) (by decide) ?_
        refine cr_iload (pc := 54) C dX4_syncsForRead_54 rfl ?_
        refine cr_dS (pc := 56) C (sm_bits (by decide)) rfl gX4_syncsForRead_X4_bits rfl dX4_syncsForRead_56 hsX4_bits rfl ⟨rfl, rfl, Nat.le_of_ble_eq_true rfl, Nat.le_of_ble_eq_true rfl⟩ (Nat.le_of_ble_eq_true rfl) rfl ?_
        rw [show cg_pc 3 = 2 by decide]
        refine cr_iload_n (pc := 59) C dX4_syncsForRead_59 rfl ?_
        refine cr_dS (pc := 60) C (sm_bits (by decide)) rfl gX4_syncsForRead_X4_bits rfl dX4_syncsForRead_60 hsX4_bits rfl ⟨rfl, rfl, Nat.le_of_ble_eq_true rfl, Nat.le_of_ble_eq_true rfl⟩ (Nat.le_of_ble_eq_true rfl) rfl ?_
        rw [show cg_pc 1 = 1 by decide]
        refine cr_icmp_ge_t (pc := 63) (tgt := 70) C dX4_syncsForRead_63 (by decide) (by decide) ?_
        refine cr_iconst (pc := 70) (v := nI 0) C dX4_syncsForRead_70 (by decide) ?_
        refine cr_istore6 (pc := 71) C dX4_syncsForRead_71 (by decide) rfl ?_
        refine cr_iload (pc := 73) C dX4_syncsForRead_73 rfl ?_
        refine cr_if_eq_t (pc := 75) (tgt := 102) C dX4_syncsForRead_75 (by decide) (by decide) ?_
        refine cr_iload_n (pc := 102) C dX4_syncsForRead_102 rfl ?_
        refine cr_istore_n3 (pc := 103) C dX4_syncsForRead_103 (by decide) rfl ?_
        refine cr_iinc4 (pc := 104) (v := nI 4) C dX4_syncsForRead_104 (by decide) (by decide) rfl ?_
        refine cr_goto (pc := 107) (tgt := 26) C dX4_syncsForRead_107 (by decide) ?_
        refine cr_iload (pc := 26) C dX4_syncsForRead_26 rfl ?_
        refine cr_bipush (pc := 28) (v := nI 8) C dX4_syncsForRead_28 (by decide) ?_
        refine cr_icmp_ge_f (pc := 30) (tgt := 110) C dX4_syncsForRead_30 (by decide) (by decide) ?_
        refine cr_iload (pc := 33) C dX4_syncsForRead_33 rfl ?_
        refine cr_iload_n (pc := 35) C dX4_syncsForRead_35 rfl ?_
        refine cr_ishr (pc := 36) C dX4_syncsForRead_36 ?_
        refine cr_iconst (pc := 37) (v := nI 1) C dX4_syncsForRead_37 (by decide) ?_
        refine cr_iand (pc := 38) C dX4_syncsForRead_38 ?_
        refine cr_if_ne_f (pc := 39) (tgt := 46) C dX4_syncsForRead_39 (by decide) (by decide) ?_
        refine cr_iconst (pc := 42) (v := nI 1) C dX4_syncsForRead_42 (by decide) ?_
        refine cr_goto (pc := 43) (tgt := 47) C dX4_syncsForRead_43 (by decide) ?_
        refine cr_istore5 (pc := 47) C dX4_syncsForRead_47 (by decide) rfl ?_
        refine cr_iload_n (pc := 49) C dX4_syncsForRead_49 rfl ?_
        refine cr_iconst (pc := 50) (v := (-1)) C dX4_syncsForRead_50 (by decide) ?_
        refine cr_icmp_eq_f (pc := 51) (tgt := 66) C dX4_syncsForRead_51 (by decide) (by decide) ?_
        refine cr_iload (pc := 54) C dX4_syncsForRead_54 rfl ?_
        refine cr_dS (pc := 56) C (sm_bits (by decide)) rfl gX4_syncsForRead_X4_bits rfl dX4_syncsForRead_56 hsX4_bits rfl ⟨rfl, rfl, Nat.le_of_ble_eq_true rfl, Nat.le_of_ble_eq_true rfl⟩ (Nat.le_of_ble_eq_true rfl) rfl ?_
        rw [show cg_pc 4 = 1 by decide]
        refine cr_iload_n (pc := 59) C dX4_syncsForRead_59 rfl ?_
        refine cr_dS (pc := 60) C (sm_bits (by decide)) rfl gX4_syncsForRead_X4_bits rfl dX4_syncsForRead_60 hsX4_bits rfl ⟨rfl, rfl, Nat.le_of_ble_eq_true rfl, Nat.le_of_ble_eq_true rfl⟩ (Nat.le_of_ble_eq_true rfl) rfl ?_
        rw [show cg_pc 1 = 1 by decide]
        refine cr_icmp_ge_t (pc := 63) (tgt := 70) C dX4_syncsForRead_63 (by decide) (by decide) ?_
        refine cr_iconst (pc := 70) (v := nI 0) C dX4_syncsForRead_70 (by decide) ?_
        refine cr_istore6 (pc := 71) C dX4_syncsForRead_71 (by decide) rfl ?_
        refine cr_iload (pc := 73) C dX4_syncsForRead_73 rfl ?_
        refine cr_if_eq_f (pc := 75) (tgt := 102) C dX4_syncsForRead_75 (by decide) (by decide) ?_
        refine cr_iload (pc := 78) C dX4_syncsForRead_78 rfl ?_
        refine cr_if_eq_t (pc := 80) (tgt := 102) C dX4_syncsForRead_80 (by decide) (by decide) ?_
        refine cr_iload_n (pc := 102) C dX4_syncsForRead_102 rfl ?_
        refine cr_istore_n3 (pc := 103) C dX4_syncsForRead_103 (by decide) rfl ?_
        refine cr_iinc4 (pc := 104) (v := nI 5) C dX4_syncsForRead_104 (by decide) (by decide) rfl ?_
        refine cr_goto (pc := 107) (tgt := 26) C dX4_syncsForRead_107 (by decide) ?_
        refine cr_iload (pc := 26) C dX4_syncsForRead_26 rfl ?_
        refine cr_bipush (pc := 28) (v := nI 8) C dX4_syncsForRead_28 (by decide) ?_
        refine cr_icmp_ge_f (pc := 30) (tgt := 110) C dX4_syncsForRead_30 (by decide) (by decide) ?_
        refine cr_iload (pc := 33) C dX4_syncsForRead_33 rfl ?_
        refine cr_iload_n (pc := 35) C dX4_syncsForRead_35 rfl ?_
        refine cr_ishr (pc := 36) C dX4_syncsForRead_36 ?_
        refine cr_iconst (pc := 37) (v := nI 1) C dX4_syncsForRead_37 (by decide) ?_
        refine cr_iand (pc := 38) C dX4_syncsForRead_38 ?_
        refine cr_if_ne_f (pc := 39) (tgt := 46) C dX4_syncsForRead_39 (by decide) (by decide) ?_
        refine cr_iconst (pc := 42) (v := nI 1) C dX4_syncsForRead_42 (by decide) ?_
        refine cr_goto (pc := 43) (tgt := 47) C dX4_syncsForRead_43 (by decide) ?_
        refine cr_istore5 (pc := 47) C dX4_syncsForRead_47 (by decide) rfl ?_
        refine cr_iload_n (pc := 49) C dX4_syncsForRead_49 rfl ?_
        refine cr_iconst (pc := 50) (v := (-1)) C dX4_syncsForRead_50 (by decide) ?_
        refine cr_icmp_eq_f (pc := 51) (tgt := 66) C dX4_syncsForRead_51 (by decide) (by decide) ?_
        refine cr_iload (pc := 54) C dX4_syncsForRead_54 rfl ?_
        refine cr_dS (pc := 56) C (sm_bits (by decide)) rfl gX4_syncsForRead_X4_bits rfl dX4_syncsForRead_56 hsX4_bits rfl ⟨rfl, rfl, Nat.le_of_ble_eq_true rfl, Nat.le_of_ble_eq_true rfl⟩ (Nat.le_of_ble_eq_true rfl) rfl ?_
        rw [show cg_pc 5 = 2 by decide]
        refine cr_iload_n (pc := 59) C dX4_syncsForRead_59 rfl ?_
        refine cr_dS (pc := 60) C (sm_bits (by decide)) rfl gX4_syncsForRead_X4_bits rfl dX4_syncsForRead_60 hsX4_bits rfl ⟨rfl, rfl, Nat.le_of_ble_eq_true rfl, Nat.le_of_ble_eq_true rfl⟩ (Nat.le_of_ble_eq_true rfl) rfl ?_
        rw [show cg_pc 1 = 1 by decide]
        refine cr_icmp_ge_t (pc := 63) (tgt := 70) C dX4_syncsForRead_63 (by decide) (by decide) ?_
        refine cr_iconst (pc := 70) (v := nI 0) C dX4_syncsForRead_70 (by decide) ?_
        refine cr_istore6 (pc := 71) C dX4_syncsForRead_71 (by decide) rfl ?_
        refine cr_iload (pc := 73) C dX4_syncsForRead_73 rfl ?_
        refine cr_if_eq_f (pc := 75) (tgt := 102) C dX4_syncsForRead_75 (by decide) (by decide) ?_
        refine cr_iload (pc := 78) C dX4_syncsForRead_78 rfl ?_
        refine cr_if_eq_t (pc := 80) (tgt := 102) C dX4_syncsForRead_80 (by decide) (by decide) ?_
        refine cr_iload_n (pc := 102) C dX4_syncsForRead_102 rfl ?_
        refine cr_istore_n3 (pc := 103) C dX4_syncsForRead_103 (by decide) rfl ?_
        refine cr_iinc4 (pc := 104) (v := nI 6) C dX4_syncsForRead_104 (by decide) (by decide) rfl ?_
        refine cr_goto (pc := 107) (tgt := 26) C dX4_syncsForRead_107 (by decide) ?_
        refine cr_iload (pc := 26) C dX4_syncsForRead_26 rfl ?_
        refine cr_bipush (pc := 28) (v := nI 8) C dX4_syncsForRead_28 (by decide) ?_
        refine cr_icmp_ge_f (pc := 30) (tgt := 110) C dX4_syncsForRead_30 (by decide) (by decide) ?_
        refine cr_iload (pc := 33) C dX4_syncsForRead_33 rfl ?_
        refine cr_iload_n (pc := 35) C dX4_syncsForRead_35 rfl ?_
        refine cr_ishr (pc := 36) C dX4_syncsForRead_36 ?_
        refine cr_iconst (pc := 37) (v := nI 1) C dX4_syncsForRead_37 (by decide) ?_
        refine cr_iand (pc := 38) C dX4_syncsForRead_38 ?_
        refine cr_if_ne_t (pc := 39) (tgt := 46) C dX4_syncsForRead_39 (by decide) (by decide) ?_
        refine cr_iconst (pc := 46) (v := nI 0) C dX4_syncsForRead_46 (by decide) ?_
        refine cr_istore5 (pc := 47) C dX4_syncsForRead_47 (by decide) rfl ?_
        refine cr_iload_n (pc := 49) C dX4_syncsForRead_49 rfl ?_
        refine cr_iconst (pc := 50) (v := (-1)) C dX4_syncsForRead_50 (by decide) ?_
        refine cr_icmp_eq_f (pc := 51) (tgt := 66) C dX4_syncsForRead_51 (by decide) (by decide) ?_
        refine cr_iload (pc := 54) C dX4_syncsForRead_54 rfl ?_
        refine cr_dS (pc := 56) C (sm_bits (by decide)) rfl gX4_syncsForRead_X4_bits rfl dX4_syncsForRead_56 hsX4_bits rfl ⟨rfl, rfl, Nat.le_of_ble_eq_true rfl, Nat.le_of_ble_eq_true rfl⟩ (Nat.le_of_ble_eq_true rfl) rfl ?_
        rw [show cg_pc 6 = 2 by decide]
        refine cr_iload_n (pc := 59) C dX4_syncsForRead_59 rfl ?_
        refine cr_dS (pc := 60) C (sm_bits (by decide)) rfl gX4_syncsForRead_X4_bits rfl dX4_syncsForRead_60 hsX4_bits rfl ⟨rfl, rfl, Nat.le_of_ble_eq_true rfl, Nat.le_of_ble_eq_true rfl⟩ (Nat.le_of_ble_eq_true rfl) rfl ?_
        rw [show cg_pc 1 = 1 by decide]
        refine cr_icmp_ge_t (pc := 63) (tgt := 70) C dX4_syncsForRead_63 (by decide) (by decide) ?_
        refine cr_iconst (pc := 70) (v := nI 0) C dX4_syncsForRead_70 (by decide) ?_
        refine cr_istore6 (pc := 71) C dX4_syncsForRead_71 (by decide) rfl ?_
        refine cr_iload (pc := 73) C dX4_syncsForRead_73 rfl ?_
        refine cr_if_eq_t (pc := 75) (tgt := 102) C dX4_syncsForRead_75 (by decide) (by decide) ?_
        refine cr_iload_n (pc := 102) C dX4_syncsForRead_102 rfl ?_
        refine cr_istore_n3 (pc := 103) C dX4_syncsForRead_103 (by decide) rfl ?_
        refine cr_iinc4 (pc := 104) (v := nI 7) C dX4_syncsForRead_104 (by decide) (by decide) rfl ?_
        refine cr_goto (pc := 107) (tgt := 26) C dX4_syncsForRead_107 (by decide) ?_
        refine cr_iload (pc := 26) C dX4_syncsForRead_26 rfl ?_
        refine cr_bipush (pc := 28) (v := nI 8) C dX4_syncsForRead_28 (by decide) ?_
        refine cr_icmp_ge_f (pc := 30) (tgt := 110) C dX4_syncsForRead_30 (by decide) (by decide) ?_
        refine cr_iload (pc := 33) C dX4_syncsForRead_33 rfl ?_
        refine cr_iload_n (pc := 35) C dX4_syncsForRead_35 rfl ?_
        refine cr_ishr (pc := 36) C dX4_syncsForRead_36 ?_
        refine cr_iconst (pc := 37) (v := nI 1) C dX4_syncsForRead_37 (by decide) ?_
        refine cr_iand (pc := 38) C dX4_syncsForRead_38 ?_
        refine cr_if_ne_t (pc := 39) (tgt := 46) C dX4_syncsForRead_39 (by decide) (by decide) ?_
        refine cr_iconst (pc := 46) (v := nI 0) C dX4_syncsForRead_46 (by decide) ?_
        refine cr_istore5 (pc := 47) C dX4_syncsForRead_47 (by decide) rfl ?_
        refine cr_iload_n (pc := 49) C dX4_syncsForRead_49 rfl ?_
        refine cr_iconst (pc := 50) (v := (-1)) C dX4_syncsForRead_50 (by decide) ?_
        refine cr_icmp_eq_f (pc := 51) (tgt := 66) C dX4_syncsForRead_51 (by decide) (by decide) ?_
        refine cr_iload (pc := 54) C dX4_syncsForRead_54 rfl ?_
        refine cr_dS (pc := 56) C (sm_bits (by decide)) rfl gX4_syncsForRead_X4_bits rfl dX4_syncsForRead_56 hsX4_bits rfl ⟨rfl, rfl, Nat.le_of_ble_eq_true rfl, Nat.le_of_ble_eq_true rfl⟩ (Nat.le_of_ble_eq_true rfl) rfl ?_
        rw [show cg_pc 7 = 3 by decide]
        refine cr_iload_n (pc := 59) C dX4_syncsForRead_59 rfl ?_
        refine cr_dS (pc := 60) C (sm_bits (by decide)) rfl gX4_syncsForRead_X4_bits rfl dX4_syncsForRead_60 hsX4_bits rfl ⟨rfl, rfl, Nat.le_of_ble_eq_true rfl, Nat.le_of_ble_eq_true rfl⟩ (Nat.le_of_ble_eq_true rfl) rfl ?_
        rw [show cg_pc 1 = 1 by decide]
        refine cr_icmp_ge_t (pc := 63) (tgt := 70) C dX4_syncsForRead_63 (by decide) (by decide) ?_
        refine cr_iconst (pc := 70) (v := nI 0) C dX4_syncsForRead_70 (by decide) ?_
        refine cr_istore6 (pc := 71) C dX4_syncsForRead_71 (by decide) rfl ?_
        refine cr_iload (pc := 73) C dX4_syncsForRead_73 rfl ?_
        refine cr_if_eq_t (pc := 75) (tgt := 102) C dX4_syncsForRead_75 (by decide) (by decide) ?_
        refine cr_iload_n (pc := 102) C dX4_syncsForRead_102 rfl ?_
        refine cr_istore_n3 (pc := 103) C dX4_syncsForRead_103 (by decide) rfl ?_
        refine cr_iinc4 (pc := 104) (v := nI 8) C dX4_syncsForRead_104 (by decide) (by decide) rfl ?_
        refine cr_goto (pc := 107) (tgt := 26) C dX4_syncsForRead_107 (by decide) ?_
        refine cr_iload (pc := 26) C dX4_syncsForRead_26 rfl ?_
        refine cr_bipush (pc := 28) (v := nI 8) C dX4_syncsForRead_28 (by decide) ?_
        refine cr_icmp_ge_t (pc := 30) (tgt := 110) C dX4_syncsForRead_30 (by decide) (by decide) ?_
        refine cr_iload_n (pc := 110) C dX4_syncsForRead_110 rfl ?_
        refine cr_ireturn (pc := 111) C X dX4_syncsForRead_111 ?_
        exact ⟨by unfold cg_sf cg_s4; simp [*], cg_sb_id M 20⟩
    · have e0 := cg_bt h94
      refine cr_iload (pc := 97) C dX4_syncsForRead_97 rfl ?_
      refine cr_goto (pc := 99) (tgt := 103) C dX4_syncsForRead_99 (by decide) ?_
      refine cr_istore_n3 (pc := 103) C dX4_syncsForRead_103 (by decide) rfl ?_
      refine cr_iinc4 (pc := 104) (v := nI 1) C dX4_syncsForRead_104 (by decide) (by decide) rfl ?_
      refine cr_goto (pc := 107) (tgt := 26) C dX4_syncsForRead_107 (by decide) ?_
      refine cr_iload (pc := 26) C dX4_syncsForRead_26 rfl ?_
      refine cr_bipush (pc := 28) (v := nI 8) C dX4_syncsForRead_28 (by decide) ?_
      refine cr_icmp_ge_f (pc := 30) (tgt := 110) C dX4_syncsForRead_30 (by decide) (by decide) ?_
      refine cr_iload (pc := 33) C dX4_syncsForRead_33 rfl ?_
      refine cr_iload_n (pc := 35) C dX4_syncsForRead_35 rfl ?_
      refine cr_ishr (pc := 36) C dX4_syncsForRead_36 ?_
      refine cr_iconst (pc := 37) (v := nI 1) C dX4_syncsForRead_37 (by decide) ?_
      refine cr_iand (pc := 38) C dX4_syncsForRead_38 ?_
      refine cr_if_ne_f (pc := 39) (tgt := 46) C dX4_syncsForRead_39 (by decide) (by decide) ?_
      refine cr_iconst (pc := 42) (v := nI 1) C dX4_syncsForRead_42 (by decide) ?_
      refine cr_goto (pc := 43) (tgt := 47) C dX4_syncsForRead_43 (by decide) ?_
      refine cr_istore5 (pc := 47) C dX4_syncsForRead_47 (by decide) rfl ?_
      refine cr_iload_n (pc := 49) C dX4_syncsForRead_49 rfl ?_
      refine cr_iconst (pc := 50) (v := (-1)) C dX4_syncsForRead_50 (by decide) ?_
      refine cr_icmp_eq_f (pc := 51) (tgt := 66) C dX4_syncsForRead_51 (by decide) (by decide) ?_
      refine cr_iload (pc := 54) C dX4_syncsForRead_54 rfl ?_
      refine cr_dS (pc := 56) C (sm_bits (by decide)) rfl gX4_syncsForRead_X4_bits rfl dX4_syncsForRead_56 hsX4_bits rfl ⟨rfl, rfl, Nat.le_of_ble_eq_true rfl, Nat.le_of_ble_eq_true rfl⟩ (Nat.le_of_ble_eq_true rfl) rfl ?_
      rw [show cg_pc 1 = 1 by decide]
      refine cr_iload_n (pc := 59) C dX4_syncsForRead_59 rfl ?_
      refine cr_dS (pc := 60) C (sm_bits (by decide)) rfl gX4_syncsForRead_X4_bits rfl dX4_syncsForRead_60 hsX4_bits rfl ⟨rfl, rfl, Nat.le_of_ble_eq_true rfl, Nat.le_of_ble_eq_true rfl⟩ (Nat.le_of_ble_eq_true rfl) rfl ?_
      rw [show cg_pc 0 = 0 by decide]
      refine cr_icmp_ge_t (pc := 63) (tgt := 70) C dX4_syncsForRead_63 (by decide) (by decide) ?_
      refine cr_iconst (pc := 70) (v := nI 0) C dX4_syncsForRead_70 (by decide) ?_
      refine cr_istore6 (pc := 71) C dX4_syncsForRead_71 (by decide) rfl ?_
      refine cr_iload (pc := 73) C dX4_syncsForRead_73 rfl ?_
      refine cr_if_eq_f (pc := 75) (tgt := 102) C dX4_syncsForRead_75 (by decide) (by decide) ?_
      refine cr_iload (pc := 78) C dX4_syncsForRead_78 rfl ?_
      refine cr_if_eq_t (pc := 80) (tgt := 102) C dX4_syncsForRead_80 (by decide) (by decide) ?_
      refine cr_iload_n (pc := 102) C dX4_syncsForRead_102 rfl ?_
      refine cr_istore_n3 (pc := 103) C dX4_syncsForRead_103 (by decide) rfl ?_
      refine cr_iinc4 (pc := 104) (v := nI 2) C dX4_syncsForRead_104 (by decide) (by decide) rfl ?_
      refine cr_goto (pc := 107) (tgt := 26) C dX4_syncsForRead_107 (by decide) ?_
      refine cr_iload (pc := 26) C dX4_syncsForRead_26 rfl ?_
      refine cr_bipush (pc := 28) (v := nI 8) C dX4_syncsForRead_28 (by decide) ?_
      refine cr_icmp_ge_f (pc := 30) (tgt := 110) C dX4_syncsForRead_30 (by decide) (by decide) ?_
      refine cr_iload (pc := 33) C dX4_syncsForRead_33 rfl ?_
      refine cr_iload_n (pc := 35) C dX4_syncsForRead_35 rfl ?_
      refine cr_ishr (pc := 36) C dX4_syncsForRead_36 ?_
      refine cr_iconst (pc := 37) (v := nI 1) C dX4_syncsForRead_37 (by decide) ?_
      refine cr_iand (pc := 38) C dX4_syncsForRead_38 ?_
      refine cr_if_ne_t (pc := 39) (tgt := 46) C dX4_syncsForRead_39 (by decide) (by decide) ?_
      refine cr_iconst (pc := 46) (v := nI 0) C dX4_syncsForRead_46 (by decide) ?_
      refine cr_istore5 (pc := 47) C dX4_syncsForRead_47 (by decide) rfl ?_
      refine cr_iload_n (pc := 49) C dX4_syncsForRead_49 rfl ?_
      refine cr_iconst (pc := 50) (v := (-1)) C dX4_syncsForRead_50 (by decide) ?_
      refine cr_icmp_eq_f (pc := 51) (tgt := 66) C dX4_syncsForRead_51 (by decide) (by decide) ?_
      refine cr_iload (pc := 54) C dX4_syncsForRead_54 rfl ?_
      refine cr_dS (pc := 56) C (sm_bits (by decide)) rfl gX4_syncsForRead_X4_bits rfl dX4_syncsForRead_56 hsX4_bits rfl ⟨rfl, rfl, Nat.le_of_ble_eq_true rfl, Nat.le_of_ble_eq_true rfl⟩ (Nat.le_of_ble_eq_true rfl) rfl ?_
      rw [show cg_pc 2 = 1 by decide]
      refine cr_iload_n (pc := 59) C dX4_syncsForRead_59 rfl ?_
      refine cr_dS (pc := 60) C (sm_bits (by decide)) rfl gX4_syncsForRead_X4_bits rfl dX4_syncsForRead_60 hsX4_bits rfl ⟨rfl, rfl, Nat.le_of_ble_eq_true rfl, Nat.le_of_ble_eq_true rfl⟩ (Nat.le_of_ble_eq_true rfl) rfl ?_
      rw [show cg_pc 0 = 0 by decide]
      refine cr_icmp_ge_t (pc := 63) (tgt := 70) C dX4_syncsForRead_63 (by decide) (by decide) ?_
      refine cr_iconst (pc := 70) (v := nI 0) C dX4_syncsForRead_70 (by decide) ?_
      refine cr_istore6 (pc := 71) C dX4_syncsForRead_71 (by decide) rfl ?_
      refine cr_iload (pc := 73) C dX4_syncsForRead_73 rfl ?_
      refine cr_if_eq_t (pc := 75) (tgt := 102) C dX4_syncsForRead_75 (by decide) (by decide) ?_
      refine cr_iload_n (pc := 102) C dX4_syncsForRead_102 rfl ?_
      refine cr_istore_n3 (pc := 103) C dX4_syncsForRead_103 (by decide) rfl ?_
      refine cr_iinc4 (pc := 104) (v := nI 3) C dX4_syncsForRead_104 (by decide) (by decide) rfl ?_
      refine cr_goto (pc := 107) (tgt := 26) C dX4_syncsForRead_107 (by decide) ?_
      refine cr_iload (pc := 26) C dX4_syncsForRead_26 rfl ?_
      refine cr_bipush (pc := 28) (v := nI 8) C dX4_syncsForRead_28 (by decide) ?_
      refine cr_icmp_ge_f (pc := 30) (tgt := 110) C dX4_syncsForRead_30 (by decide) (by decide) ?_
      refine cr_iload (pc := 33) C dX4_syncsForRead_33 rfl ?_
      refine cr_iload_n (pc := 35) C dX4_syncsForRead_35 rfl ?_
      refine cr_ishr (pc := 36) C dX4_syncsForRead_36 ?_
      refine cr_iconst (pc := 37) (v := nI 1) C dX4_syncsForRead_37 (by decide) ?_
      refine cr_iand (pc := 38) C dX4_syncsForRead_38 ?_
      refine cr_if_ne_t (pc := 39) (tgt := 46) C dX4_syncsForRead_39 (by decide) (by decide) ?_
      refine cr_iconst (pc := 46) (v := nI 0) C dX4_syncsForRead_46 (by decide) ?_
      refine cr_istore5 (pc := 47) C dX4_syncsForRead_47 (by decide) rfl ?_
      refine cr_iload_n (pc := 49) C dX4_syncsForRead_49 rfl ?_
      refine cr_iconst (pc := 50) (v := (-1)) C dX4_syncsForRead_50 (by decide) ?_
      refine cr_icmp_eq_f (pc := 51) (tgt := 66) C dX4_syncsForRead_51 (by decide) (by decide) ?_
      refine cr_iload (pc := 54) C dX4_syncsForRead_54 rfl ?_
      refine cr_dS (pc := 56) C (sm_bits (by decide)) rfl gX4_syncsForRead_X4_bits rfl dX4_syncsForRead_56 hsX4_bits rfl ⟨rfl, rfl, Nat.le_of_ble_eq_true rfl, Nat.le_of_ble_eq_true rfl⟩ (Nat.le_of_ble_eq_true rfl) rfl ?_
      rw [show cg_pc 3 = 2 by decide]
      refine cr_iload_n (pc := 59) C dX4_syncsForRead_59 rfl ?_
      refine cr_dS (pc := 60) C (sm_bits (by decide)) rfl gX4_syncsForRead_X4_bits rfl dX4_syncsForRead_60 hsX4_bits rfl ⟨rfl, rfl, Nat.le_of_ble_eq_true rfl, Nat.le_of_ble_eq_true rfl⟩ (Nat.le_of_ble_eq_true rfl) rfl ?_
      rw [show cg_pc 0 = 0 by decide]
      refine cr_icmp_ge_t (pc := 63) (tgt := 70) C dX4_syncsForRead_63 (by decide) (by decide) ?_
      refine cr_iconst (pc := 70) (v := nI 0) C dX4_syncsForRead_70 (by decide) ?_
      refine cr_istore6 (pc := 71) C dX4_syncsForRead_71 (by decide) rfl ?_
      refine cr_iload (pc := 73) C dX4_syncsForRead_73 rfl ?_
      refine cr_if_eq_t (pc := 75) (tgt := 102) C dX4_syncsForRead_75 (by decide) (by decide) ?_
      refine cr_iload_n (pc := 102) C dX4_syncsForRead_102 rfl ?_
      refine cr_istore_n3 (pc := 103) C dX4_syncsForRead_103 (by decide) rfl ?_
      refine cr_iinc4 (pc := 104) (v := nI 4) C dX4_syncsForRead_104 (by decide) (by decide) rfl ?_
      refine cr_goto (pc := 107) (tgt := 26) C dX4_syncsForRead_107 (by decide) ?_
      refine cr_iload (pc := 26) C dX4_syncsForRead_26 rfl ?_
      refine cr_bipush (pc := 28) (v := nI 8) C dX4_syncsForRead_28 (by decide) ?_
      refine cr_icmp_ge_f (pc := 30) (tgt := 110) C dX4_syncsForRead_30 (by decide) (by decide) ?_
      refine cr_iload (pc := 33) C dX4_syncsForRead_33 rfl ?_
      refine cr_iload_n (pc := 35) C dX4_syncsForRead_35 rfl ?_
      refine cr_ishr (pc := 36) C dX4_syncsForRead_36 ?_
      refine cr_iconst (pc := 37) (v := nI 1) C dX4_syncsForRead_37 (by decide) ?_
      refine cr_iand (pc := 38) C dX4_syncsForRead_38 ?_
      refine cr_if_ne_f (pc := 39) (tgt := 46) C dX4_syncsForRead_39 (by decide) (by decide) ?_
      refine cr_iconst (pc := 42) (v := nI 1) C dX4_syncsForRead_42 (by decide) ?_
      refine cr_goto (pc := 43) (tgt := 47) C dX4_syncsForRead_43 (by decide) ?_
      refine cr_istore5 (pc := 47) C dX4_syncsForRead_47 (by decide) rfl ?_
      refine cr_iload_n (pc := 49) C dX4_syncsForRead_49 rfl ?_
      refine cr_iconst (pc := 50) (v := (-1)) C dX4_syncsForRead_50 (by decide) ?_
      refine cr_icmp_eq_f (pc := 51) (tgt := 66) C dX4_syncsForRead_51 (by decide) (by decide) ?_
      refine cr_iload (pc := 54) C dX4_syncsForRead_54 rfl ?_
      refine cr_dS (pc := 56) C (sm_bits (by decide)) rfl gX4_syncsForRead_X4_bits rfl dX4_syncsForRead_56 hsX4_bits rfl ⟨rfl, rfl, Nat.le_of_ble_eq_true rfl, Nat.le_of_ble_eq_true rfl⟩ (Nat.le_of_ble_eq_true rfl) rfl ?_
      rw [show cg_pc 4 = 1 by decide]
      refine cr_iload_n (pc := 59) C dX4_syncsForRead_59 rfl ?_
      refine cr_dS (pc := 60) C (sm_bits (by decide)) rfl gX4_syncsForRead_X4_bits rfl dX4_syncsForRead_60 hsX4_bits rfl ⟨rfl, rfl, Nat.le_of_ble_eq_true rfl, Nat.le_of_ble_eq_true rfl⟩ (Nat.le_of_ble_eq_true rfl) rfl ?_
      rw [show cg_pc 0 = 0 by decide]
      refine cr_icmp_ge_t (pc := 63) (tgt := 70) C dX4_syncsForRead_63 (by decide) (by decide) ?_
      refine cr_iconst (pc := 70) (v := nI 0) C dX4_syncsForRead_70 (by decide) ?_
      refine cr_istore6 (pc := 71) C dX4_syncsForRead_71 (by decide) rfl ?_
      refine cr_iload (pc := 73) C dX4_syncsForRead_73 rfl ?_
      refine cr_if_eq_f (pc := 75) (tgt := 102) C dX4_syncsForRead_75 (by decide) (by decide) ?_
      refine cr_iload (pc := 78) C dX4_syncsForRead_78 rfl ?_
      refine cr_if_eq_t (pc := 80) (tgt := 102) C dX4_syncsForRead_80 (by decide) (by decide) ?_
      refine cr_iload_n (pc := 102) C dX4_syncsForRead_102 rfl ?_
      refine cr_istore_n3 (pc := 103) C dX4_syncsForRead_103 (by decide) rfl ?_
      refine cr_iinc4 (pc := 104) (v := nI 5) C dX4_syncsForRead_104 (by decide) (by decide) rfl ?_
      refine cr_goto (pc := 107) (tgt := 26) C dX4_syncsForRead_107 (by decide) ?_
      refine cr_iload (pc := 26) C dX4_syncsForRead_26 rfl ?_
      refine cr_bipush (pc := 28) (v := nI 8) C dX4_syncsForRead_28 (by decide) ?_
      refine cr_icmp_ge_f (pc := 30) (tgt := 110) C dX4_syncsForRead_30 (by decide) (by decide) ?_
      refine cr_iload (pc := 33) C dX4_syncsForRead_33 rfl ?_
      refine cr_iload_n (pc := 35) C dX4_syncsForRead_35 rfl ?_
      refine cr_ishr (pc := 36) C dX4_syncsForRead_36 ?_
      refine cr_iconst (pc := 37) (v := nI 1) C dX4_syncsForRead_37 (by decide) ?_
      refine cr_iand (pc := 38) C dX4_syncsForRead_38 ?_
      refine cr_if_ne_f (pc := 39) (tgt := 46) C dX4_syncsForRead_39 (by decide) (by decide) ?_
      refine cr_iconst (pc := 42) (v := nI 1) C dX4_syncsForRead_42 (by decide) ?_
      refine cr_goto (pc := 43) (tgt := 47) C dX4_syncsForRead_43 (by decide) ?_
      refine cr_istore5 (pc := 47) C dX4_syncsForRead_47 (by decide) rfl ?_
      refine cr_iload_n (pc := 49) C dX4_syncsForRead_49 rfl ?_
      refine cr_iconst (pc := 50) (v := (-1)) C dX4_syncsForRead_50 (by decide) ?_
      refine cr_icmp_eq_f (pc := 51) (tgt := 66) C dX4_syncsForRead_51 (by decide) (by decide) ?_
      refine cr_iload (pc := 54) C dX4_syncsForRead_54 rfl ?_
      refine cr_dS (pc := 56) C (sm_bits (by decide)) rfl gX4_syncsForRead_X4_bits rfl dX4_syncsForRead_56 hsX4_bits rfl ⟨rfl, rfl, Nat.le_of_ble_eq_true rfl, Nat.le_of_ble_eq_true rfl⟩ (Nat.le_of_ble_eq_true rfl) rfl ?_
      rw [show cg_pc 5 = 2 by decide]
      refine cr_iload_n (pc := 59) C dX4_syncsForRead_59 rfl ?_
      refine cr_dS (pc := 60) C (sm_bits (by decide)) rfl gX4_syncsForRead_X4_bits rfl dX4_syncsForRead_60 hsX4_bits rfl ⟨rfl, rfl, Nat.le_of_ble_eq_true rfl, Nat.le_of_ble_eq_true rfl⟩ (Nat.le_of_ble_eq_true rfl) rfl ?_
      rw [show cg_pc 0 = 0 by decide]
      refine cr_icmp_ge_t (pc := 63) (tgt := 70) C dX4_syncsForRead_63 (by decide) (by decide) ?_
      refine cr_iconst (pc := 70) (v := nI 0) C dX4_syncsForRead_70 (by decide) ?_
      refine cr_istore6 (pc := 71) C dX4_syncsForRead_71 (by decide) rfl ?_
      refine cr_iload (pc := 73) C dX4_syncsForRead_73 rfl ?_
      refine cr_if_eq_f (pc := 75) (tgt := 102) C dX4_syncsForRead_75 (by decide) (by decide) ?_
      refine cr_iload (pc := 78) C dX4_syncsForRead_78 rfl ?_
      refine cr_if_eq_t (pc := 80) (tgt := 102) C dX4_syncsForRead_80 (by decide) (by decide) ?_
      refine cr_iload_n (pc := 102) C dX4_syncsForRead_102 rfl ?_
      refine cr_istore_n3 (pc := 103) C dX4_syncsForRead_103 (by decide) rfl ?_
      refine cr_iinc4 (pc := 104) (v := nI 6) C dX4_syncsForRead_104 (by decide) (by decide) rfl ?_
      refine cr_goto (pc := 107) (tgt := 26) C dX4_syncsForRead_107 (by decide) ?_
      refine cr_iload (pc := 26) C dX4_syncsForRead_26 rfl ?_
      refine cr_bipush (pc := 28) (v := nI 8) C dX4_syncsForRead_28 (by decide) ?_
      refine cr_icmp_ge_f (pc := 30) (tgt := 110) C dX4_syncsForRead_30 (by decide) (by decide) ?_
      refine cr_iload (pc := 33) C dX4_syncsForRead_33 rfl ?_
      refine cr_iload_n (pc := 35) C dX4_syncsForRead_35 rfl ?_
      refine cr_ishr (pc := 36) C dX4_syncsForRead_36 ?_
      refine cr_iconst (pc := 37) (v := nI 1) C dX4_syncsForRead_37 (by decide) ?_
      refine cr_iand (pc := 38) C dX4_syncsForRead_38 ?_
      refine cr_if_ne_t (pc := 39) (tgt := 46) C dX4_syncsForRead_39 (by decide) (by decide) ?_
      refine cr_iconst (pc := 46) (v := nI 0) C dX4_syncsForRead_46 (by decide) ?_
      refine cr_istore5 (pc := 47) C dX4_syncsForRead_47 (by decide) rfl ?_
      refine cr_iload_n (pc := 49) C dX4_syncsForRead_49 rfl ?_
      refine cr_iconst (pc := 50) (v := (-1)) C dX4_syncsForRead_50 (by decide) ?_
      refine cr_icmp_eq_f (pc := 51) (tgt := 66) C dX4_syncsForRead_51 (by decide) (by decide) ?_
      refine cr_iload (pc := 54) C dX4_syncsForRead_54 rfl ?_
      refine cr_dS (pc := 56) C (sm_bits (by decide)) rfl gX4_syncsForRead_X4_bits rfl dX4_syncsForRead_56 hsX4_bits rfl ⟨rfl, rfl, Nat.le_of_ble_eq_true rfl, Nat.le_of_ble_eq_true rfl⟩ (Nat.le_of_ble_eq_true rfl) rfl ?_
      rw [show cg_pc 6 = 2 by decide]
      refine cr_iload_n (pc := 59) C dX4_syncsForRead_59 rfl ?_
      refine cr_dS (pc := 60) C (sm_bits (by decide)) rfl gX4_syncsForRead_X4_bits rfl dX4_syncsForRead_60 hsX4_bits rfl ⟨rfl, rfl, Nat.le_of_ble_eq_true rfl, Nat.le_of_ble_eq_true rfl⟩ (Nat.le_of_ble_eq_true rfl) rfl ?_
      rw [show cg_pc 0 = 0 by decide]
      refine cr_icmp_ge_t (pc := 63) (tgt := 70) C dX4_syncsForRead_63 (by decide) (by decide) ?_
      refine cr_iconst (pc := 70) (v := nI 0) C dX4_syncsForRead_70 (by decide) ?_
      refine cr_istore6 (pc := 71) C dX4_syncsForRead_71 (by decide) rfl ?_
      refine cr_iload (pc := 73) C dX4_syncsForRead_73 rfl ?_
      refine cr_if_eq_t (pc := 75) (tgt := 102) C dX4_syncsForRead_75 (by decide) (by decide) ?_
      refine cr_iload_n (pc := 102) C dX4_syncsForRead_102 rfl ?_
      refine cr_istore_n3 (pc := 103) C dX4_syncsForRead_103 (by decide) rfl ?_
      refine cr_iinc4 (pc := 104) (v := nI 7) C dX4_syncsForRead_104 (by decide) (by decide) rfl ?_
      refine cr_goto (pc := 107) (tgt := 26) C dX4_syncsForRead_107 (by decide) ?_
      refine cr_iload (pc := 26) C dX4_syncsForRead_26 rfl ?_
      refine cr_bipush (pc := 28) (v := nI 8) C dX4_syncsForRead_28 (by decide) ?_
      refine cr_icmp_ge_f (pc := 30) (tgt := 110) C dX4_syncsForRead_30 (by decide) (by decide) ?_
      refine cr_iload (pc := 33) C dX4_syncsForRead_33 rfl ?_
      refine cr_iload_n (pc := 35) C dX4_syncsForRead_35 rfl ?_
      refine cr_ishr (pc := 36) C dX4_syncsForRead_36 ?_
      refine cr_iconst (pc := 37) (v := nI 1) C dX4_syncsForRead_37 (by decide) ?_
      refine cr_iand (pc := 38) C dX4_syncsForRead_38 ?_
      refine cr_if_ne_t (pc := 39) (tgt := 46) C dX4_syncsForRead_39 (by decide) (by decide) ?_
      refine cr_iconst (pc := 46) (v := nI 0) C dX4_syncsForRead_46 (by decide) ?_
      refine cr_istore5 (pc := 47) C dX4_syncsForRead_47 (by decide) rfl ?_
      refine cr_iload_n (pc := 49) C dX4_syncsForRead_49 rfl ?_
      refine cr_iconst (pc := 50) (v := (-1)) C dX4_syncsForRead_50 (by decide) ?_
      refine cr_icmp_eq_f (pc := 51) (tgt := 66) C dX4_syncsForRead_51 (by decide) (by decide) ?_
      refine cr_iload (pc := 54) C dX4_syncsForRead_54 rfl ?_
      refine cr_dS (pc := 56) C (sm_bits (by decide)) rfl gX4_syncsForRead_X4_bits rfl dX4_syncsForRead_56 hsX4_bits rfl ⟨rfl, rfl, Nat.le_of_ble_eq_true rfl, Nat.le_of_ble_eq_true rfl⟩ (Nat.le_of_ble_eq_true rfl) rfl ?_
      rw [show cg_pc 7 = 3 by decide]
      refine cr_iload_n (pc := 59) C dX4_syncsForRead_59 rfl ?_
      refine cr_dS (pc := 60) C (sm_bits (by decide)) rfl gX4_syncsForRead_X4_bits rfl dX4_syncsForRead_60 hsX4_bits rfl ⟨rfl, rfl, Nat.le_of_ble_eq_true rfl, Nat.le_of_ble_eq_true rfl⟩ (Nat.le_of_ble_eq_true rfl) rfl ?_
      rw [show cg_pc 0 = 0 by decide]
      refine cr_icmp_ge_t (pc := 63) (tgt := 70) C dX4_syncsForRead_63 (by decide) (by decide) ?_
      refine cr_iconst (pc := 70) (v := nI 0) C dX4_syncsForRead_70 (by decide) ?_
      refine cr_istore6 (pc := 71) C dX4_syncsForRead_71 (by decide) rfl ?_
      refine cr_iload (pc := 73) C dX4_syncsForRead_73 rfl ?_
      refine cr_if_eq_t (pc := 75) (tgt := 102) C dX4_syncsForRead_75 (by decide) (by decide) ?_
      refine cr_iload_n (pc := 102) C dX4_syncsForRead_102 rfl ?_
      refine cr_istore_n3 (pc := 103) C dX4_syncsForRead_103 (by decide) rfl ?_
      refine cr_iinc4 (pc := 104) (v := nI 8) C dX4_syncsForRead_104 (by decide) (by decide) rfl ?_
      refine cr_goto (pc := 107) (tgt := 26) C dX4_syncsForRead_107 (by decide) ?_
      refine cr_iload (pc := 26) C dX4_syncsForRead_26 rfl ?_
      refine cr_bipush (pc := 28) (v := nI 8) C dX4_syncsForRead_28 (by decide) ?_
      refine cr_icmp_ge_t (pc := 30) (tgt := 110) C dX4_syncsForRead_30 (by decide) (by decide) ?_
      refine cr_iload_n (pc := 110) C dX4_syncsForRead_110 rfl ?_
      refine cr_ireturn (pc := 111) C X dX4_syncsForRead_111 ?_
      exact ⟨by unfold cg_sf cg_s4; simp [*], cg_sb_id M 20⟩
  · refine cg_S_of (cc := cX4_syncsForRead) (maxL := 7) (ret := (some .int)) (ls0 := [some (.inr (.inr (4, 0, 0, 0))), some (.inl (nI c)), some (.inl (nI 2)), none, none, none, none]) RX4 rfl (by decide) rfl rfl (Nat.le_of_ble_eq_true rfl) (fun E C X => ?_)
    refine cr_iload_n (pc := 0) C dX4_syncsForRead_0 rfl ?_
    refine cr_dS (pc := 1) C (sm_isClient1 hc) rfl gX4_syncsForRead_X4_isClient rfl dX4_syncsForRead_1 hsX4_isClient rfl ⟨rfl, rfl, Nat.le_of_ble_eq_true rfl, Nat.le_of_ble_eq_true rfl⟩ (Nat.le_of_ble_eq_true rfl) rfl ?_
    refine cr_if_eq_f (pc := 4) (tgt := 14) C dX4_syncsForRead_4 (by decide) (by decide) ?_
    refine cr_iload_n (pc := 7) C dX4_syncsForRead_7 rfl ?_
    refine cr_dS (pc := 8) C (sm_isReplica1 (by decide)) rfl gX4_syncsForRead_X4_isReplica rfl dX4_syncsForRead_8 hsX4_isReplica rfl ⟨rfl, rfl, Nat.le_of_ble_eq_true rfl, Nat.le_of_ble_eq_true rfl⟩ (Nat.le_of_ble_eq_true rfl) rfl ?_
    refine cr_if_ne_t (pc := 11) (tgt := 21) C dX4_syncsForRead_11 (by decide) (by decide) ?_
    refine cr_mem (cg_sb_id M 20).symm ?_
    refine cr_iconst (pc := 21) (v := (-1)) C dX4_syncsForRead_21 (by decide) ?_
    refine cr_istore_n3 (pc := 22) C dX4_syncsForRead_22 (by decide) rfl ?_
    refine cr_iconst (pc := 23) (v := nI 0) C dX4_syncsForRead_23 (by decide) ?_
    refine cr_istore4 (pc := 24) C dX4_syncsForRead_24 (by decide) rfl ?_
    refine cr_iload (pc := 26) C dX4_syncsForRead_26 rfl ?_
    refine cr_bipush (pc := 28) (v := nI 8) C dX4_syncsForRead_28 (by decide) ?_
    refine cr_icmp_ge_f (pc := 30) (tgt := 110) C dX4_syncsForRead_30 (by decide) (by decide) ?_
    refine cr_iload (pc := 33) C dX4_syncsForRead_33 rfl ?_
    refine cr_iload_n (pc := 35) C dX4_syncsForRead_35 rfl ?_
    refine cr_ishr (pc := 36) C dX4_syncsForRead_36 ?_
    refine cr_iconst (pc := 37) (v := nI 1) C dX4_syncsForRead_37 (by decide) ?_
    refine cr_iand (pc := 38) C dX4_syncsForRead_38 ?_
    refine cr_if_ne_f (pc := 39) (tgt := 46) C dX4_syncsForRead_39 (by decide) (by decide) ?_
    refine cr_iconst (pc := 42) (v := nI 1) C dX4_syncsForRead_42 (by decide) ?_
    refine cr_goto (pc := 43) (tgt := 47) C dX4_syncsForRead_43 (by decide) ?_
    refine cr_istore5 (pc := 47) C dX4_syncsForRead_47 (by decide) rfl ?_
    refine cr_iload_n (pc := 49) C dX4_syncsForRead_49 rfl ?_
    refine cr_iconst (pc := 50) (v := (-1)) C dX4_syncsForRead_50 (by decide) ?_
    refine cr_icmp_eq_t (pc := 51) (tgt := 66) C dX4_syncsForRead_51 (by decide) (by decide) ?_
    refine cr_iconst (pc := 66) (v := nI 1) C dX4_syncsForRead_66 (by decide) ?_
    refine cr_goto (pc := 67) (tgt := 71) C dX4_syncsForRead_67 (by decide) ?_
    refine cr_istore6 (pc := 71) C dX4_syncsForRead_71 (by decide) rfl ?_
    refine cr_iload (pc := 73) C dX4_syncsForRead_73 rfl ?_
    refine cr_if_eq_f (pc := 75) (tgt := 102) C dX4_syncsForRead_75 (by decide) (by decide) ?_
    refine cr_iload (pc := 78) C dX4_syncsForRead_78 rfl ?_
    refine cr_if_eq_f (pc := 80) (tgt := 102) C dX4_syncsForRead_80 (by decide) (by decide) ?_
    refine cr_aload_n (pc := 83) C dX4_syncsForRead_83 rfl ?_
    refine cr_iload_n (pc := 84) C dX4_syncsForRead_84 rfl ?_
    refine cr_iload (pc := 85) C dX4_syncsForRead_85 rfl ?_
    refine cr_iconst (pc := 87) (v := nI 1) C dX4_syncsForRead_87 (by decide) ?_
    refine cr_iload_n (pc := 88) C dX4_syncsForRead_88 rfl ?_
    refine cr_ishl (pc := 89) C dX4_syncsForRead_89 ?_
    refine cr_ior (pc := 90) C dX4_syncsForRead_90 ?_
    refine cr_top (show nI 0 ||| nI 1 <<< (nI 2 &&& 31) = nI 4 by decide) ?_
    refine cr_dV (pc := 91) C (sm_rB hc (by decide) hI) rfl gX4_syncsForRead_X4_isReadBy rfl dX4_syncsForRead_91 (by first | rfl | assumption | (simp [cg_ok]; omega)) rfl hvX4_isReadBy rfl ⟨rfl, rfl, Nat.le_of_ble_eq_true rfl, Nat.le_of_ble_eq_true rfl⟩ (Nat.le_of_ble_eq_true rfl) rfl ?_
    refine cr_if_eq (pc := 94) (tgt := 102) C dX4_syncsForRead_94 (by decide) (fun h94 => ?_) (fun h94 => ?_)
    · have e0 := cg_bf h94
      refine cr_iload_n (pc := 102) C dX4_syncsForRead_102 rfl ?_
      refine cr_istore_n3 (pc := 103) C dX4_syncsForRead_103 (by decide) rfl ?_
      refine cr_iinc4 (pc := 104) (v := nI 1) C dX4_syncsForRead_104 (by decide) (by decide) rfl ?_
      refine cr_goto (pc := 107) (tgt := 26) C dX4_syncsForRead_107 (by decide) ?_
      refine cr_iload (pc := 26) C dX4_syncsForRead_26 rfl ?_
      refine cr_bipush (pc := 28) (v := nI 8) C dX4_syncsForRead_28 (by decide) ?_
      refine cr_icmp_ge_f (pc := 30) (tgt := 110) C dX4_syncsForRead_30 (by decide) (by decide) ?_
      refine cr_iload (pc := 33) C dX4_syncsForRead_33 rfl ?_
      refine cr_iload_n (pc := 35) C dX4_syncsForRead_35 rfl ?_
      refine cr_ishr (pc := 36) C dX4_syncsForRead_36 ?_
      refine cr_iconst (pc := 37) (v := nI 1) C dX4_syncsForRead_37 (by decide) ?_
      refine cr_iand (pc := 38) C dX4_syncsForRead_38 ?_
      refine cr_if_ne_f (pc := 39) (tgt := 46) C dX4_syncsForRead_39 (by decide) (by decide) ?_
      refine cr_iconst (pc := 42) (v := nI 1) C dX4_syncsForRead_42 (by decide) ?_
      refine cr_goto (pc := 43) (tgt := 47) C dX4_syncsForRead_43 (by decide) ?_
      refine cr_istore5 (pc := 47) C dX4_syncsForRead_47 (by decide) rfl ?_
      refine cr_iload_n (pc := 49) C dX4_syncsForRead_49 rfl ?_
      refine cr_iconst (pc := 50) (v := (-1)) C dX4_syncsForRead_50 (by decide) ?_
      refine cr_icmp_eq_t (pc := 51) (tgt := 66) C dX4_syncsForRead_51 (by decide) (by decide) ?_
      refine cr_iconst (pc := 66) (v := nI 1) C dX4_syncsForRead_66 (by decide) ?_
      refine cr_goto (pc := 67) (tgt := 71) C dX4_syncsForRead_67 (by decide) ?_
      refine cr_istore6 (pc := 71) C dX4_syncsForRead_71 (by decide) rfl ?_
      refine cr_iload (pc := 73) C dX4_syncsForRead_73 rfl ?_
      refine cr_if_eq_f (pc := 75) (tgt := 102) C dX4_syncsForRead_75 (by decide) (by decide) ?_
      refine cr_iload (pc := 78) C dX4_syncsForRead_78 rfl ?_
      refine cr_if_eq_f (pc := 80) (tgt := 102) C dX4_syncsForRead_80 (by decide) (by decide) ?_
      refine cr_aload_n (pc := 83) C dX4_syncsForRead_83 rfl ?_
      refine cr_iload_n (pc := 84) C dX4_syncsForRead_84 rfl ?_
      refine cr_iload (pc := 85) C dX4_syncsForRead_85 rfl ?_
      refine cr_iconst (pc := 87) (v := nI 1) C dX4_syncsForRead_87 (by decide) ?_
      refine cr_iload_n (pc := 88) C dX4_syncsForRead_88 rfl ?_
      refine cr_ishl (pc := 89) C dX4_syncsForRead_89 ?_
      refine cr_ior (pc := 90) C dX4_syncsForRead_90 ?_
      refine cr_top (show nI 1 ||| nI 1 <<< (nI 2 &&& 31) = nI 5 by decide) ?_
      refine cr_dV (pc := 91) C (sm_rB hc (by decide) hI) rfl gX4_syncsForRead_X4_isReadBy rfl dX4_syncsForRead_91 (by first | rfl | assumption | (simp [cg_ok]; omega)) rfl hvX4_isReadBy rfl ⟨rfl, rfl, Nat.le_of_ble_eq_true rfl, Nat.le_of_ble_eq_true rfl⟩ (Nat.le_of_ble_eq_true rfl) rfl ?_
      refine cr_if_eq (pc := 94) (tgt := 102) C dX4_syncsForRead_94 (by decide) (fun h94 => ?_) (fun h94 => ?_)
      · have e1 := cg_bf h94
        refine cr_iload_n (pc := 102) C dX4_syncsForRead_102 rfl ?_
        refine cr_istore_n3 (pc := 103) C dX4_syncsForRead_103 (by decide) rfl ?_
        refine cr_iinc4 (pc := 104) (v := nI 2) C dX4_syncsForRead_104 (by decide) (by decide) rfl ?_
        refine cr_goto (pc := 107) (tgt := 26) C dX4_syncsForRead_107 (by decide) ?_
        refine cr_iload (pc := 26) C dX4_syncsForRead_26 rfl ?_
        refine cr_bipush (pc := 28) (v := nI 8) C dX4_syncsForRead_28 (by decide) ?_
        refine cr_icmp_ge_f (pc := 30) (tgt := 110) C dX4_syncsForRead_30 (by decide) (by decide) ?_
        refine cr_iload (pc := 33) C dX4_syncsForRead_33 rfl ?_
        refine cr_iload_n (pc := 35) C dX4_syncsForRead_35 rfl ?_
        refine cr_ishr (pc := 36) C dX4_syncsForRead_36 ?_
        refine cr_iconst (pc := 37) (v := nI 1) C dX4_syncsForRead_37 (by decide) ?_
        refine cr_iand (pc := 38) C dX4_syncsForRead_38 ?_
        refine cr_if_ne_f (pc := 39) (tgt := 46) C dX4_syncsForRead_39 (by decide) (by decide) ?_
        refine cr_iconst (pc := 42) (v := nI 1) C dX4_syncsForRead_42 (by decide) ?_
        refine cr_goto (pc := 43) (tgt := 47) C dX4_syncsForRead_43 (by decide) ?_
        refine cr_istore5 (pc := 47) C dX4_syncsForRead_47 (by decide) rfl ?_
        refine cr_iload_n (pc := 49) C dX4_syncsForRead_49 rfl ?_
        refine cr_iconst (pc := 50) (v := (-1)) C dX4_syncsForRead_50 (by decide) ?_
        refine cr_icmp_eq_t (pc := 51) (tgt := 66) C dX4_syncsForRead_51 (by decide) (by decide) ?_
        refine cr_iconst (pc := 66) (v := nI 1) C dX4_syncsForRead_66 (by decide) ?_
        refine cr_goto (pc := 67) (tgt := 71) C dX4_syncsForRead_67 (by decide) ?_
        refine cr_istore6 (pc := 71) C dX4_syncsForRead_71 (by decide) rfl ?_
        refine cr_iload (pc := 73) C dX4_syncsForRead_73 rfl ?_
        refine cr_if_eq_f (pc := 75) (tgt := 102) C dX4_syncsForRead_75 (by decide) (by decide) ?_
        refine cr_iload (pc := 78) C dX4_syncsForRead_78 rfl ?_
        refine cr_if_eq_f (pc := 80) (tgt := 102) C dX4_syncsForRead_80 (by decide) (by decide) ?_
        refine cr_aload_n (pc := 83) C dX4_syncsForRead_83 rfl ?_
        refine cr_iload_n (pc := 84) C dX4_syncsForRead_84 rfl ?_
        refine cr_iload (pc := 85) C dX4_syncsForRead_85 rfl ?_
        refine cr_iconst (pc := 87) (v := nI 1) C dX4_syncsForRead_87 (by decide) ?_
        refine cr_iload_n (pc := 88) C dX4_syncsForRead_88 rfl ?_
        refine cr_ishl (pc := 89) C dX4_syncsForRead_89 ?_
        refine cr_ior (pc := 90) C dX4_syncsForRead_90 ?_
        refine cr_top (show nI 2 ||| nI 1 <<< (nI 2 &&& 31) = nI 6 by decide) ?_
        refine cr_dV (pc := 91) C (sm_rB hc (by decide) hI) rfl gX4_syncsForRead_X4_isReadBy rfl dX4_syncsForRead_91 (by first | rfl | assumption | (simp [cg_ok]; omega)) rfl hvX4_isReadBy rfl ⟨rfl, rfl, Nat.le_of_ble_eq_true rfl, Nat.le_of_ble_eq_true rfl⟩ (Nat.le_of_ble_eq_true rfl) rfl ?_
        refine cr_if_eq (pc := 94) (tgt := 102) C dX4_syncsForRead_94 (by decide) (fun h94 => ?_) (fun h94 => ?_)
        · have e2 := cg_bf h94
          refine cr_iload_n (pc := 102) C dX4_syncsForRead_102 rfl ?_
          refine cr_istore_n3 (pc := 103) C dX4_syncsForRead_103 (by decide) rfl ?_
          refine cr_iinc4 (pc := 104) (v := nI 3) C dX4_syncsForRead_104 (by decide) (by decide) rfl ?_
          refine cr_goto (pc := 107) (tgt := 26) C dX4_syncsForRead_107 (by decide) ?_
          refine cr_iload (pc := 26) C dX4_syncsForRead_26 rfl ?_
          refine cr_bipush (pc := 28) (v := nI 8) C dX4_syncsForRead_28 (by decide) ?_
          refine cr_icmp_ge_f (pc := 30) (tgt := 110) C dX4_syncsForRead_30 (by decide) (by decide) ?_
          refine cr_iload (pc := 33) C dX4_syncsForRead_33 rfl ?_
          refine cr_iload_n (pc := 35) C dX4_syncsForRead_35 rfl ?_
          refine cr_ishr (pc := 36) C dX4_syncsForRead_36 ?_
          refine cr_iconst (pc := 37) (v := nI 1) C dX4_syncsForRead_37 (by decide) ?_
          refine cr_iand (pc := 38) C dX4_syncsForRead_38 ?_
          refine cr_if_ne_f (pc := 39) (tgt := 46) C dX4_syncsForRead_39 (by decide) (by decide) ?_
          refine cr_iconst (pc := 42) (v := nI 1) C dX4_syncsForRead_42 (by decide) ?_
          refine cr_goto (pc := 43) (tgt := 47) C dX4_syncsForRead_43 (by decide) ?_
          refine cr_istore5 (pc := 47) C dX4_syncsForRead_47 (by decide) rfl ?_
          refine cr_iload_n (pc := 49) C dX4_syncsForRead_49 rfl ?_
          refine cr_iconst (pc := 50) (v := (-1)) C dX4_syncsForRead_50 (by decide) ?_
          refine cr_icmp_eq_t (pc := 51) (tgt := 66) C dX4_syncsForRead_51 (by decide) (by decide) ?_
          refine cr_iconst (pc := 66) (v := nI 1) C dX4_syncsForRead_66 (by decide) ?_
          refine cr_goto (pc := 67) (tgt := 71) C dX4_syncsForRead_67 (by decide) ?_
          refine cr_istore6 (pc := 71) C dX4_syncsForRead_71 (by decide) rfl ?_
          refine cr_iload (pc := 73) C dX4_syncsForRead_73 rfl ?_
          refine cr_if_eq_f (pc := 75) (tgt := 102) C dX4_syncsForRead_75 (by decide) (by decide) ?_
          refine cr_iload (pc := 78) C dX4_syncsForRead_78 rfl ?_
          refine cr_if_eq_f (pc := 80) (tgt := 102) C dX4_syncsForRead_80 (by decide) (by decide) ?_
          refine cr_aload_n (pc := 83) C dX4_syncsForRead_83 rfl ?_
          refine cr_iload_n (pc := 84) C dX4_syncsForRead_84 rfl ?_
          refine cr_iload (pc := 85) C dX4_syncsForRead_85 rfl ?_
          refine cr_iconst (pc := 87) (v := nI 1) C dX4_syncsForRead_87 (by decide) ?_
          refine cr_iload_n (pc := 88) C dX4_syncsForRead_88 rfl ?_
          refine cr_ishl (pc := 89) C dX4_syncsForRead_89 ?_
          refine cr_ior (pc := 90) C dX4_syncsForRead_90 ?_
          refine cr_top (show nI 3 ||| nI 1 <<< (nI 2 &&& 31) = nI 7 by decide) ?_
          refine cr_dV (pc := 91) C (sm_rB hc (by decide) hI) rfl gX4_syncsForRead_X4_isReadBy rfl dX4_syncsForRead_91 (by first | rfl | assumption | (simp [cg_ok]; omega)) rfl hvX4_isReadBy rfl ⟨rfl, rfl, Nat.le_of_ble_eq_true rfl, Nat.le_of_ble_eq_true rfl⟩ (Nat.le_of_ble_eq_true rfl) rfl ?_
          refine cr_if_eq (pc := 94) (tgt := 102) C dX4_syncsForRead_94 (by decide) (fun h94 => ?_) (fun h94 => ?_)
          · have e3 := cg_bf h94
            refine cr_iload_n (pc := 102) C dX4_syncsForRead_102 rfl ?_
            refine cr_istore_n3 (pc := 103) C dX4_syncsForRead_103 (by decide) rfl ?_
            refine cr_iinc4 (pc := 104) (v := nI 4) C dX4_syncsForRead_104 (by decide) (by decide) rfl ?_
            refine cr_goto (pc := 107) (tgt := 26) C dX4_syncsForRead_107 (by decide) ?_
            refine cr_iload (pc := 26) C dX4_syncsForRead_26 rfl ?_
            refine cr_bipush (pc := 28) (v := nI 8) C dX4_syncsForRead_28 (by decide) ?_
            refine cr_icmp_ge_f (pc := 30) (tgt := 110) C dX4_syncsForRead_30 (by decide) (by decide) ?_
            refine cr_iload (pc := 33) C dX4_syncsForRead_33 rfl ?_
            refine cr_iload_n (pc := 35) C dX4_syncsForRead_35 rfl ?_
            refine cr_ishr (pc := 36) C dX4_syncsForRead_36 ?_
            refine cr_iconst (pc := 37) (v := nI 1) C dX4_syncsForRead_37 (by decide) ?_
            refine cr_iand (pc := 38) C dX4_syncsForRead_38 ?_
            refine cr_if_ne_t (pc := 39) (tgt := 46) C dX4_syncsForRead_39 (by decide) (by decide) ?_
            refine cr_iconst (pc := 46) (v := nI 0) C dX4_syncsForRead_46 (by decide) ?_
            refine cr_istore5 (pc := 47) C dX4_syncsForRead_47 (by decide) rfl ?_
            refine cr_iload_n (pc := 49) C dX4_syncsForRead_49 rfl ?_
            refine cr_iconst (pc := 50) (v := (-1)) C dX4_syncsForRead_50 (by decide) ?_
            refine cr_icmp_eq_t (pc := 51) (tgt := 66) C dX4_syncsForRead_51 (by decide) (by decide) ?_
            refine cr_iconst (pc := 66) (v := nI 1) C dX4_syncsForRead_66 (by decide) ?_
            refine cr_goto (pc := 67) (tgt := 71) C dX4_syncsForRead_67 (by decide) ?_
            refine cr_istore6 (pc := 71) C dX4_syncsForRead_71 (by decide) rfl ?_
            refine cr_iload (pc := 73) C dX4_syncsForRead_73 rfl ?_
            refine cr_if_eq_t (pc := 75) (tgt := 102) C dX4_syncsForRead_75 (by decide) (by decide) ?_
            refine cr_iload_n (pc := 102) C dX4_syncsForRead_102 rfl ?_
            refine cr_istore_n3 (pc := 103) C dX4_syncsForRead_103 (by decide) rfl ?_
            refine cr_iinc4 (pc := 104) (v := nI 5) C dX4_syncsForRead_104 (by decide) (by decide) rfl ?_
            refine cr_goto (pc := 107) (tgt := 26) C dX4_syncsForRead_107 (by decide) ?_
            refine cr_iload (pc := 26) C dX4_syncsForRead_26 rfl ?_
            refine cr_bipush (pc := 28) (v := nI 8) C dX4_syncsForRead_28 (by decide) ?_
            refine cr_icmp_ge_f (pc := 30) (tgt := 110) C dX4_syncsForRead_30 (by decide) (by decide) ?_
            refine cr_iload (pc := 33) C dX4_syncsForRead_33 rfl ?_
            refine cr_iload_n (pc := 35) C dX4_syncsForRead_35 rfl ?_
            refine cr_ishr (pc := 36) C dX4_syncsForRead_36 ?_
            refine cr_iconst (pc := 37) (v := nI 1) C dX4_syncsForRead_37 (by decide) ?_
            refine cr_iand (pc := 38) C dX4_syncsForRead_38 ?_
            refine cr_if_ne_t (pc := 39) (tgt := 46) C dX4_syncsForRead_39 (by decide) (by decide) ?_
            refine cr_iconst (pc := 46) (v := nI 0) C dX4_syncsForRead_46 (by decide) ?_
            refine cr_istore5 (pc := 47) C dX4_syncsForRead_47 (by decide) rfl ?_
            refine cr_iload_n (pc := 49) C dX4_syncsForRead_49 rfl ?_
            refine cr_iconst (pc := 50) (v := (-1)) C dX4_syncsForRead_50 (by decide) ?_
            refine cr_icmp_eq_t (pc := 51) (tgt := 66) C dX4_syncsForRead_51 (by decide) (by decide) ?_
            refine cr_iconst (pc := 66) (v := nI 1) C dX4_syncsForRead_66 (by decide) ?_
            refine cr_goto (pc := 67) (tgt := 71) C dX4_syncsForRead_67 (by decide) ?_
            refine cr_istore6 (pc := 71) C dX4_syncsForRead_71 (by decide) rfl ?_
            refine cr_iload (pc := 73) C dX4_syncsForRead_73 rfl ?_
            refine cr_if_eq_t (pc := 75) (tgt := 102) C dX4_syncsForRead_75 (by decide) (by decide) ?_
            refine cr_iload_n (pc := 102) C dX4_syncsForRead_102 rfl ?_
            refine cr_istore_n3 (pc := 103) C dX4_syncsForRead_103 (by decide) rfl ?_
            refine cr_iinc4 (pc := 104) (v := nI 6) C dX4_syncsForRead_104 (by decide) (by decide) rfl ?_
            refine cr_goto (pc := 107) (tgt := 26) C dX4_syncsForRead_107 (by decide) ?_
            refine cr_iload (pc := 26) C dX4_syncsForRead_26 rfl ?_
            refine cr_bipush (pc := 28) (v := nI 8) C dX4_syncsForRead_28 (by decide) ?_
            refine cr_icmp_ge_f (pc := 30) (tgt := 110) C dX4_syncsForRead_30 (by decide) (by decide) ?_
            refine cr_iload (pc := 33) C dX4_syncsForRead_33 rfl ?_
            refine cr_iload_n (pc := 35) C dX4_syncsForRead_35 rfl ?_
            refine cr_ishr (pc := 36) C dX4_syncsForRead_36 ?_
            refine cr_iconst (pc := 37) (v := nI 1) C dX4_syncsForRead_37 (by decide) ?_
            refine cr_iand (pc := 38) C dX4_syncsForRead_38 ?_
            refine cr_if_ne_t (pc := 39) (tgt := 46) C dX4_syncsForRead_39 (by decide) (by decide) ?_
            refine cr_iconst (pc := 46) (v := nI 0) C dX4_syncsForRead_46 (by decide) ?_
            refine cr_istore5 (pc := 47) C dX4_syncsForRead_47 (by decide) rfl ?_
            refine cr_iload_n (pc := 49) C dX4_syncsForRead_49 rfl ?_
            refine cr_iconst (pc := 50) (v := (-1)) C dX4_syncsForRead_50 (by decide) ?_
            refine cr_icmp_eq_t (pc := 51) (tgt := 66) C dX4_syncsForRead_51 (by decide) (by decide) ?_
            refine cr_iconst (pc := 66) (v := nI 1) C dX4_syncsForRead_66 (by decide) ?_
            refine cr_goto (pc := 67) (tgt := 71) C dX4_syncsForRead_67 (by decide) ?_
            refine cr_istore6 (pc := 71) C dX4_syncsForRead_71 (by decide) rfl ?_
            refine cr_iload (pc := 73) C dX4_syncsForRead_73 rfl ?_
            refine cr_if_eq_t (pc := 75) (tgt := 102) C dX4_syncsForRead_75 (by decide) (by decide) ?_
            refine cr_iload_n (pc := 102) C dX4_syncsForRead_102 rfl ?_
            refine cr_istore_n3 (pc := 103) C dX4_syncsForRead_103 (by decide) rfl ?_
            refine cr_iinc4 (pc := 104) (v := nI 7) C dX4_syncsForRead_104 (by decide) (by decide) rfl ?_
            refine cr_goto (pc := 107) (tgt := 26) C dX4_syncsForRead_107 (by decide) ?_
            refine cr_iload (pc := 26) C dX4_syncsForRead_26 rfl ?_
            refine cr_bipush (pc := 28) (v := nI 8) C dX4_syncsForRead_28 (by decide) ?_
            refine cr_icmp_ge_f (pc := 30) (tgt := 110) C dX4_syncsForRead_30 (by decide) (by decide) ?_
            refine cr_iload (pc := 33) C dX4_syncsForRead_33 rfl ?_
            refine cr_iload_n (pc := 35) C dX4_syncsForRead_35 rfl ?_
            refine cr_ishr (pc := 36) C dX4_syncsForRead_36 ?_
            refine cr_iconst (pc := 37) (v := nI 1) C dX4_syncsForRead_37 (by decide) ?_
            refine cr_iand (pc := 38) C dX4_syncsForRead_38 ?_
            refine cr_if_ne_t (pc := 39) (tgt := 46) C dX4_syncsForRead_39 (by decide) (by decide) ?_
            refine cr_iconst (pc := 46) (v := nI 0) C dX4_syncsForRead_46 (by decide) ?_
            refine cr_istore5 (pc := 47) C dX4_syncsForRead_47 (by decide) rfl ?_
            refine cr_iload_n (pc := 49) C dX4_syncsForRead_49 rfl ?_
            refine cr_iconst (pc := 50) (v := (-1)) C dX4_syncsForRead_50 (by decide) ?_
            refine cr_icmp_eq_t (pc := 51) (tgt := 66) C dX4_syncsForRead_51 (by decide) (by decide) ?_
            refine cr_iconst (pc := 66) (v := nI 1) C dX4_syncsForRead_66 (by decide) ?_
            refine cr_goto (pc := 67) (tgt := 71) C dX4_syncsForRead_67 (by decide) ?_
            refine cr_istore6 (pc := 71) C dX4_syncsForRead_71 (by decide) rfl ?_
            refine cr_iload (pc := 73) C dX4_syncsForRead_73 rfl ?_
            refine cr_if_eq_t (pc := 75) (tgt := 102) C dX4_syncsForRead_75 (by decide) (by decide) ?_
            refine cr_iload_n (pc := 102) C dX4_syncsForRead_102 rfl ?_
            refine cr_istore_n3 (pc := 103) C dX4_syncsForRead_103 (by decide) rfl ?_
            refine cr_iinc4 (pc := 104) (v := nI 8) C dX4_syncsForRead_104 (by decide) (by decide) rfl ?_
            refine cr_goto (pc := 107) (tgt := 26) C dX4_syncsForRead_107 (by decide) ?_
            refine cr_iload (pc := 26) C dX4_syncsForRead_26 rfl ?_
            refine cr_bipush (pc := 28) (v := nI 8) C dX4_syncsForRead_28 (by decide) ?_
            refine cr_icmp_ge_t (pc := 30) (tgt := 110) C dX4_syncsForRead_30 (by decide) (by decide) ?_
            refine cr_iload_n (pc := 110) C dX4_syncsForRead_110 rfl ?_
            refine cr_ireturn (pc := 111) C X dX4_syncsForRead_111 ?_
            exact ⟨by unfold cg_sf cg_s4; simp [*], cg_sb_id M 20⟩
          · have e3 := cg_bt h94
            refine cr_iload (pc := 97) C dX4_syncsForRead_97 rfl ?_
            refine cr_goto (pc := 99) (tgt := 103) C dX4_syncsForRead_99 (by decide) ?_
            refine cr_istore_n3 (pc := 103) C dX4_syncsForRead_103 (by decide) rfl ?_
            refine cr_iinc4 (pc := 104) (v := nI 4) C dX4_syncsForRead_104 (by decide) (by decide) rfl ?_
            refine cr_goto (pc := 107) (tgt := 26) C dX4_syncsForRead_107 (by decide) ?_
            refine cr_iload (pc := 26) C dX4_syncsForRead_26 rfl ?_
            refine cr_bipush (pc := 28) (v := nI 8) C dX4_syncsForRead_28 (by decide) ?_
            refine cr_icmp_ge_f (pc := 30) (tgt := 110) C dX4_syncsForRead_30 (by decide) (by decide) ?_
            refine cr_iload (pc := 33) C dX4_syncsForRead_33 rfl ?_
            refine cr_iload_n (pc := 35) C dX4_syncsForRead_35 rfl ?_
            refine cr_ishr (pc := 36) C dX4_syncsForRead_36 ?_
            refine cr_iconst (pc := 37) (v := nI 1) C dX4_syncsForRead_37 (by decide) ?_
            refine cr_iand (pc := 38) C dX4_syncsForRead_38 ?_
            refine cr_if_ne_t (pc := 39) (tgt := 46) C dX4_syncsForRead_39 (by decide) (by decide) ?_
            refine cr_iconst (pc := 46) (v := nI 0) C dX4_syncsForRead_46 (by decide) ?_
            refine cr_istore5 (pc := 47) C dX4_syncsForRead_47 (by decide) rfl ?_
            refine cr_iload_n (pc := 49) C dX4_syncsForRead_49 rfl ?_
            refine cr_iconst (pc := 50) (v := (-1)) C dX4_syncsForRead_50 (by decide) ?_
            refine cr_icmp_eq_f (pc := 51) (tgt := 66) C dX4_syncsForRead_51 (by decide) (by decide) ?_
            refine cr_iload (pc := 54) C dX4_syncsForRead_54 rfl ?_
            refine cr_dS (pc := 56) C (sm_bits (by decide)) rfl gX4_syncsForRead_X4_bits rfl dX4_syncsForRead_56 hsX4_bits rfl ⟨rfl, rfl, Nat.le_of_ble_eq_true rfl, Nat.le_of_ble_eq_true rfl⟩ (Nat.le_of_ble_eq_true rfl) rfl ?_
            rw [show cg_pc 4 = 1 by decide]
            refine cr_iload_n (pc := 59) C dX4_syncsForRead_59 rfl ?_
            refine cr_dS (pc := 60) C (sm_bits (by decide)) rfl gX4_syncsForRead_X4_bits rfl dX4_syncsForRead_60 hsX4_bits rfl ⟨rfl, rfl, Nat.le_of_ble_eq_true rfl, Nat.le_of_ble_eq_true rfl⟩ (Nat.le_of_ble_eq_true rfl) rfl ?_
            rw [show cg_pc 3 = 2 by decide]
            refine cr_icmp_ge_f (pc := 63) (tgt := 70) C dX4_syncsForRead_63 (by decide) (by decide) ?_
            refine cr_iconst (pc := 66) (v := nI 1) C dX4_syncsForRead_66 (by decide) ?_
            refine cr_goto (pc := 67) (tgt := 71) C dX4_syncsForRead_67 (by decide) ?_
            refine cr_istore6 (pc := 71) C dX4_syncsForRead_71 (by decide) rfl ?_
            refine cr_iload (pc := 73) C dX4_syncsForRead_73 rfl ?_
            refine cr_if_eq_t (pc := 75) (tgt := 102) C dX4_syncsForRead_75 (by decide) (by decide) ?_
            refine cr_iload_n (pc := 102) C dX4_syncsForRead_102 rfl ?_
            refine cr_istore_n3 (pc := 103) C dX4_syncsForRead_103 (by decide) rfl ?_
            refine cr_iinc4 (pc := 104) (v := nI 5) C dX4_syncsForRead_104 (by decide) (by decide) rfl ?_
            refine cr_goto (pc := 107) (tgt := 26) C dX4_syncsForRead_107 (by decide) ?_
            refine cr_iload (pc := 26) C dX4_syncsForRead_26 rfl ?_
            refine cr_bipush (pc := 28) (v := nI 8) C dX4_syncsForRead_28 (by decide) ?_
            refine cr_icmp_ge_f (pc := 30) (tgt := 110) C dX4_syncsForRead_30 (by decide) (by decide) ?_
            refine cr_iload (pc := 33) C dX4_syncsForRead_33 rfl ?_
            refine cr_iload_n (pc := 35) C dX4_syncsForRead_35 rfl ?_
            refine cr_ishr (pc := 36) C dX4_syncsForRead_36 ?_
            refine cr_iconst (pc := 37) (v := nI 1) C dX4_syncsForRead_37 (by decide) ?_
            refine cr_iand (pc := 38) C dX4_syncsForRead_38 ?_
            refine cr_if_ne_t (pc := 39) (tgt := 46) C dX4_syncsForRead_39 (by decide) (by decide) ?_
            refine cr_iconst (pc := 46) (v := nI 0) C dX4_syncsForRead_46 (by decide) ?_
            refine cr_istore5 (pc := 47) C dX4_syncsForRead_47 (by decide) rfl ?_
            refine cr_iload_n (pc := 49) C dX4_syncsForRead_49 rfl ?_
            refine cr_iconst (pc := 50) (v := (-1)) C dX4_syncsForRead_50 (by decide) ?_
            refine cr_icmp_eq_f (pc := 51) (tgt := 66) C dX4_syncsForRead_51 (by decide) (by decide) ?_
            refine cr_iload (pc := 54) C dX4_syncsForRead_54 rfl ?_
            refine cr_dS (pc := 56) C (sm_bits (by decide)) rfl gX4_syncsForRead_X4_bits rfl dX4_syncsForRead_56 hsX4_bits rfl ⟨rfl, rfl, Nat.le_of_ble_eq_true rfl, Nat.le_of_ble_eq_true rfl⟩ (Nat.le_of_ble_eq_true rfl) rfl ?_
            rw [show cg_pc 5 = 2 by decide]
            refine cr_iload_n (pc := 59) C dX4_syncsForRead_59 rfl ?_
            refine cr_dS (pc := 60) C (sm_bits (by decide)) rfl gX4_syncsForRead_X4_bits rfl dX4_syncsForRead_60 hsX4_bits rfl ⟨rfl, rfl, Nat.le_of_ble_eq_true rfl, Nat.le_of_ble_eq_true rfl⟩ (Nat.le_of_ble_eq_true rfl) rfl ?_
            rw [show cg_pc 3 = 2 by decide]
            refine cr_icmp_ge_t (pc := 63) (tgt := 70) C dX4_syncsForRead_63 (by decide) (by decide) ?_
            refine cr_iconst (pc := 70) (v := nI 0) C dX4_syncsForRead_70 (by decide) ?_
            refine cr_istore6 (pc := 71) C dX4_syncsForRead_71 (by decide) rfl ?_
            refine cr_iload (pc := 73) C dX4_syncsForRead_73 rfl ?_
            refine cr_if_eq_t (pc := 75) (tgt := 102) C dX4_syncsForRead_75 (by decide) (by decide) ?_
            refine cr_iload_n (pc := 102) C dX4_syncsForRead_102 rfl ?_
            refine cr_istore_n3 (pc := 103) C dX4_syncsForRead_103 (by decide) rfl ?_
            refine cr_iinc4 (pc := 104) (v := nI 6) C dX4_syncsForRead_104 (by decide) (by decide) rfl ?_
            refine cr_goto (pc := 107) (tgt := 26) C dX4_syncsForRead_107 (by decide) ?_
            refine cr_iload (pc := 26) C dX4_syncsForRead_26 rfl ?_
            refine cr_bipush (pc := 28) (v := nI 8) C dX4_syncsForRead_28 (by decide) ?_
            refine cr_icmp_ge_f (pc := 30) (tgt := 110) C dX4_syncsForRead_30 (by decide) (by decide) ?_
            refine cr_iload (pc := 33) C dX4_syncsForRead_33 rfl ?_
            refine cr_iload_n (pc := 35) C dX4_syncsForRead_35 rfl ?_
            refine cr_ishr (pc := 36) C dX4_syncsForRead_36 ?_
            refine cr_iconst (pc := 37) (v := nI 1) C dX4_syncsForRead_37 (by decide) ?_
            refine cr_iand (pc := 38) C dX4_syncsForRead_38 ?_
            refine cr_if_ne_t (pc := 39) (tgt := 46) C dX4_syncsForRead_39 (by decide) (by decide) ?_
            refine cr_iconst (pc := 46) (v := nI 0) C dX4_syncsForRead_46 (by decide) ?_
            refine cr_istore5 (pc := 47) C dX4_syncsForRead_47 (by decide) rfl ?_
            refine cr_iload_n (pc := 49) C dX4_syncsForRead_49 rfl ?_
            refine cr_iconst (pc := 50) (v := (-1)) C dX4_syncsForRead_50 (by decide) ?_
            refine cr_icmp_eq_f (pc := 51) (tgt := 66) C dX4_syncsForRead_51 (by decide) (by decide) ?_
            refine cr_iload (pc := 54) C dX4_syncsForRead_54 rfl ?_
            refine cr_dS (pc := 56) C (sm_bits (by decide)) rfl gX4_syncsForRead_X4_bits rfl dX4_syncsForRead_56 hsX4_bits rfl ⟨rfl, rfl, Nat.le_of_ble_eq_true rfl, Nat.le_of_ble_eq_true rfl⟩ (Nat.le_of_ble_eq_true rfl) rfl ?_
            rw [show cg_pc 6 = 2 by decide]
            refine cr_iload_n (pc := 59) C dX4_syncsForRead_59 rfl ?_
            refine cr_dS (pc := 60) C (sm_bits (by decide)) rfl gX4_syncsForRead_X4_bits rfl dX4_syncsForRead_60 hsX4_bits rfl ⟨rfl, rfl, Nat.le_of_ble_eq_true rfl, Nat.le_of_ble_eq_true rfl⟩ (Nat.le_of_ble_eq_true rfl) rfl ?_
            rw [show cg_pc 3 = 2 by decide]
            refine cr_icmp_ge_t (pc := 63) (tgt := 70) C dX4_syncsForRead_63 (by decide) (by decide) ?_
            refine cr_iconst (pc := 70) (v := nI 0) C dX4_syncsForRead_70 (by decide) ?_
            refine cr_istore6 (pc := 71) C dX4_syncsForRead_71 (by decide) rfl ?_
            refine cr_iload (pc := 73) C dX4_syncsForRead_73 rfl ?_
            refine cr_if_eq_t (pc := 75) (tgt := 102) C dX4_syncsForRead_75 (by decide) (by decide) ?_
            refine cr_iload_n (pc := 102) C dX4_syncsForRead_102 rfl ?_
            refine cr_istore_n3 (pc := 103) C dX4_syncsForRead_103 (by decide) rfl ?_
            refine cr_iinc4 (pc := 104) (v := nI 7) C dX4_syncsForRead_104 (by decide) (by decide) rfl ?_
            refine cr_goto (pc := 107) (tgt := 26) C dX4_syncsForRead_107 (by decide) ?_
            refine cr_iload (pc := 26) C dX4_syncsForRead_26 rfl ?_
            refine cr_bipush (pc := 28) (v := nI 8) C dX4_syncsForRead_28 (by decide) ?_
            refine cr_icmp_ge_f (pc := 30) (tgt := 110) C dX4_syncsForRead_30 (by decide) (by decide) ?_
            refine cr_iload (pc := 33) C dX4_syncsForRead_33 rfl ?_
            refine cr_iload_n (pc := 35) C dX4_syncsForRead_35 rfl ?_
            refine cr_ishr (pc := 36) C dX4_syncsForRead_36 ?_
            refine cr_iconst (pc := 37) (v := nI 1) C dX4_syncsForRead_37 (by decide) ?_
            refine cr_iand (pc := 38) C dX4_syncsForRead_38 ?_
            refine cr_if_ne_t (pc := 39) (tgt := 46) C dX4_syncsForRead_39 (by decide) (by decide) ?_
            refine cr_iconst (pc := 46) (v := nI 0) C dX4_syncsForRead_46 (by decide) ?_
            refine cr_istore5 (pc := 47) C dX4_syncsForRead_47 (by decide) rfl ?_
            refine cr_iload_n (pc := 49) C dX4_syncsForRead_49 rfl ?_
            refine cr_iconst (pc := 50) (v := (-1)) C dX4_syncsForRead_50 (by decide) ?_
            refine cr_icmp_eq_f (pc := 51) (tgt := 66) C dX4_syncsForRead_51 (by decide) (by decide) ?_
            refine cr_iload (pc := 54) C dX4_syncsForRead_54 rfl ?_
            refine cr_dS (pc := 56) C (sm_bits (by decide)) rfl gX4_syncsForRead_X4_bits rfl dX4_syncsForRead_56 hsX4_bits rfl ⟨rfl, rfl, Nat.le_of_ble_eq_true rfl, Nat.le_of_ble_eq_true rfl⟩ (Nat.le_of_ble_eq_true rfl) rfl ?_
            rw [show cg_pc 7 = 3 by decide]
            refine cr_iload_n (pc := 59) C dX4_syncsForRead_59 rfl ?_
            refine cr_dS (pc := 60) C (sm_bits (by decide)) rfl gX4_syncsForRead_X4_bits rfl dX4_syncsForRead_60 hsX4_bits rfl ⟨rfl, rfl, Nat.le_of_ble_eq_true rfl, Nat.le_of_ble_eq_true rfl⟩ (Nat.le_of_ble_eq_true rfl) rfl ?_
            rw [show cg_pc 3 = 2 by decide]
            refine cr_icmp_ge_t (pc := 63) (tgt := 70) C dX4_syncsForRead_63 (by decide) (by decide) ?_
            refine cr_iconst (pc := 70) (v := nI 0) C dX4_syncsForRead_70 (by decide) ?_
            refine cr_istore6 (pc := 71) C dX4_syncsForRead_71 (by decide) rfl ?_
            refine cr_iload (pc := 73) C dX4_syncsForRead_73 rfl ?_
            refine cr_if_eq_t (pc := 75) (tgt := 102) C dX4_syncsForRead_75 (by decide) (by decide) ?_
            refine cr_iload_n (pc := 102) C dX4_syncsForRead_102 rfl ?_
            refine cr_istore_n3 (pc := 103) C dX4_syncsForRead_103 (by decide) rfl ?_
            refine cr_iinc4 (pc := 104) (v := nI 8) C dX4_syncsForRead_104 (by decide) (by decide) rfl ?_
            refine cr_goto (pc := 107) (tgt := 26) C dX4_syncsForRead_107 (by decide) ?_
            refine cr_iload (pc := 26) C dX4_syncsForRead_26 rfl ?_
            refine cr_bipush (pc := 28) (v := nI 8) C dX4_syncsForRead_28 (by decide) ?_
            refine cr_icmp_ge_t (pc := 30) (tgt := 110) C dX4_syncsForRead_30 (by decide) (by decide) ?_
            refine cr_iload_n (pc := 110) C dX4_syncsForRead_110 rfl ?_
            refine cr_ireturn (pc := 111) C X dX4_syncsForRead_111 ?_
            exact ⟨by unfold cg_sf cg_s4; simp [*], cg_sb_id M 20⟩
        · have e2 := cg_bt h94
          refine cr_iload (pc := 97) C dX4_syncsForRead_97 rfl ?_
          refine cr_goto (pc := 99) (tgt := 103) C dX4_syncsForRead_99 (by decide) ?_
          refine cr_istore_n3 (pc := 103) C dX4_syncsForRead_103 (by decide) rfl ?_
          refine cr_iinc4 (pc := 104) (v := nI 3) C dX4_syncsForRead_104 (by decide) (by decide) rfl ?_
          refine cr_goto (pc := 107) (tgt := 26) C dX4_syncsForRead_107 (by decide) ?_
          refine cr_iload (pc := 26) C dX4_syncsForRead_26 rfl ?_
          refine cr_bipush (pc := 28) (v := nI 8) C dX4_syncsForRead_28 (by decide) ?_
          refine cr_icmp_ge_f (pc := 30) (tgt := 110) C dX4_syncsForRead_30 (by decide) (by decide) ?_
          refine cr_iload (pc := 33) C dX4_syncsForRead_33 rfl ?_
          refine cr_iload_n (pc := 35) C dX4_syncsForRead_35 rfl ?_
          refine cr_ishr (pc := 36) C dX4_syncsForRead_36 ?_
          refine cr_iconst (pc := 37) (v := nI 1) C dX4_syncsForRead_37 (by decide) ?_
          refine cr_iand (pc := 38) C dX4_syncsForRead_38 ?_
          refine cr_if_ne_f (pc := 39) (tgt := 46) C dX4_syncsForRead_39 (by decide) (by decide) ?_
          refine cr_iconst (pc := 42) (v := nI 1) C dX4_syncsForRead_42 (by decide) ?_
          refine cr_goto (pc := 43) (tgt := 47) C dX4_syncsForRead_43 (by decide) ?_
          refine cr_istore5 (pc := 47) C dX4_syncsForRead_47 (by decide) rfl ?_
          refine cr_iload_n (pc := 49) C dX4_syncsForRead_49 rfl ?_
          refine cr_iconst (pc := 50) (v := (-1)) C dX4_syncsForRead_50 (by decide) ?_
          refine cr_icmp_eq_f (pc := 51) (tgt := 66) C dX4_syncsForRead_51 (by decide) (by decide) ?_
          refine cr_iload (pc := 54) C dX4_syncsForRead_54 rfl ?_
          refine cr_dS (pc := 56) C (sm_bits (by decide)) rfl gX4_syncsForRead_X4_bits rfl dX4_syncsForRead_56 hsX4_bits rfl ⟨rfl, rfl, Nat.le_of_ble_eq_true rfl, Nat.le_of_ble_eq_true rfl⟩ (Nat.le_of_ble_eq_true rfl) rfl ?_
          rw [show cg_pc 3 = 2 by decide]
          refine cr_iload_n (pc := 59) C dX4_syncsForRead_59 rfl ?_
          refine cr_dS (pc := 60) C (sm_bits (by decide)) rfl gX4_syncsForRead_X4_bits rfl dX4_syncsForRead_60 hsX4_bits rfl ⟨rfl, rfl, Nat.le_of_ble_eq_true rfl, Nat.le_of_ble_eq_true rfl⟩ (Nat.le_of_ble_eq_true rfl) rfl ?_
          rw [show cg_pc 2 = 1 by decide]
          refine cr_icmp_ge_t (pc := 63) (tgt := 70) C dX4_syncsForRead_63 (by decide) (by decide) ?_
          refine cr_iconst (pc := 70) (v := nI 0) C dX4_syncsForRead_70 (by decide) ?_
          refine cr_istore6 (pc := 71) C dX4_syncsForRead_71 (by decide) rfl ?_
          refine cr_iload (pc := 73) C dX4_syncsForRead_73 rfl ?_
          refine cr_if_eq_f (pc := 75) (tgt := 102) C dX4_syncsForRead_75 (by decide) (by decide) ?_
          refine cr_iload (pc := 78) C dX4_syncsForRead_78 rfl ?_
          refine cr_if_eq_t (pc := 80) (tgt := 102) C dX4_syncsForRead_80 (by decide) (by decide) ?_
          refine cr_iload_n (pc := 102) C dX4_syncsForRead_102 rfl ?_
          refine cr_istore_n3 (pc := 103) C dX4_syncsForRead_103 (by decide) rfl ?_
          refine cr_iinc4 (pc := 104) (v := nI 4) C dX4_syncsForRead_104 (by decide) (by decide) rfl ?_
          refine cr_goto (pc := 107) (tgt := 26) C dX4_syncsForRead_107 (by decide) ?_
          refine cr_iload (pc := 26) C dX4_syncsForRead_26 rfl ?_
          refine cr_bipush (pc := 28) (v := nI 8) C dX4_syncsForRead_28 (by decide) ?_
          refine cr_icmp_ge_f (pc := 30) (tgt := 110) C dX4_syncsForRead_30 (by decide) (by decide) ?_
          refine cr_iload (pc := 33) C dX4_syncsForRead_33 rfl ?_
          refine cr_iload_n (pc := 35) C dX4_syncsForRead_35 rfl ?_
          refine cr_ishr (pc := 36) C dX4_syncsForRead_36 ?_
          refine cr_iconst (pc := 37) (v := nI 1) C dX4_syncsForRead_37 (by decide) ?_
          refine cr_iand (pc := 38) C dX4_syncsForRead_38 ?_
          refine cr_if_ne_t (pc := 39) (tgt := 46) C dX4_syncsForRead_39 (by decide) (by decide) ?_
          refine cr_iconst (pc := 46) (v := nI 0) C dX4_syncsForRead_46 (by decide) ?_
          refine cr_istore5 (pc := 47) C dX4_syncsForRead_47 (by decide) rfl ?_
          refine cr_iload_n (pc := 49) C dX4_syncsForRead_49 rfl ?_
          refine cr_iconst (pc := 50) (v := (-1)) C dX4_syncsForRead_50 (by decide) ?_
          refine cr_icmp_eq_f (pc := 51) (tgt := 66) C dX4_syncsForRead_51 (by decide) (by decide) ?_
          refine cr_iload (pc := 54) C dX4_syncsForRead_54 rfl ?_
          refine cr_dS (pc := 56) C (sm_bits (by decide)) rfl gX4_syncsForRead_X4_bits rfl dX4_syncsForRead_56 hsX4_bits rfl ⟨rfl, rfl, Nat.le_of_ble_eq_true rfl, Nat.le_of_ble_eq_true rfl⟩ (Nat.le_of_ble_eq_true rfl) rfl ?_
          rw [show cg_pc 4 = 1 by decide]
          refine cr_iload_n (pc := 59) C dX4_syncsForRead_59 rfl ?_
          refine cr_dS (pc := 60) C (sm_bits (by decide)) rfl gX4_syncsForRead_X4_bits rfl dX4_syncsForRead_60 hsX4_bits rfl ⟨rfl, rfl, Nat.le_of_ble_eq_true rfl, Nat.le_of_ble_eq_true rfl⟩ (Nat.le_of_ble_eq_true rfl) rfl ?_
          rw [show cg_pc 2 = 1 by decide]
          refine cr_icmp_ge_t (pc := 63) (tgt := 70) C dX4_syncsForRead_63 (by decide) (by decide) ?_
          refine cr_iconst (pc := 70) (v := nI 0) C dX4_syncsForRead_70 (by decide) ?_
          refine cr_istore6 (pc := 71) C dX4_syncsForRead_71 (by decide) rfl ?_
          refine cr_iload (pc := 73) C dX4_syncsForRead_73 rfl ?_
          refine cr_if_eq_t (pc := 75) (tgt := 102) C dX4_syncsForRead_75 (by decide) (by decide) ?_
          refine cr_iload_n (pc := 102) C dX4_syncsForRead_102 rfl ?_
          refine cr_istore_n3 (pc := 103) C dX4_syncsForRead_103 (by decide) rfl ?_
          refine cr_iinc4 (pc := 104) (v := nI 5) C dX4_syncsForRead_104 (by decide) (by decide) rfl ?_
          refine cr_goto (pc := 107) (tgt := 26) C dX4_syncsForRead_107 (by decide) ?_
          refine cr_iload (pc := 26) C dX4_syncsForRead_26 rfl ?_
          refine cr_bipush (pc := 28) (v := nI 8) C dX4_syncsForRead_28 (by decide) ?_
          refine cr_icmp_ge_f (pc := 30) (tgt := 110) C dX4_syncsForRead_30 (by decide) (by decide) ?_
          refine cr_iload (pc := 33) C dX4_syncsForRead_33 rfl ?_
          refine cr_iload_n (pc := 35) C dX4_syncsForRead_35 rfl ?_
          refine cr_ishr (pc := 36) C dX4_syncsForRead_36 ?_
          refine cr_iconst (pc := 37) (v := nI 1) C dX4_syncsForRead_37 (by decide) ?_
          refine cr_iand (pc := 38) C dX4_syncsForRead_38 ?_
          refine cr_if_ne_t (pc := 39) (tgt := 46) C dX4_syncsForRead_39 (by decide) (by decide) ?_
          refine cr_iconst (pc := 46) (v := nI 0) C dX4_syncsForRead_46 (by decide) ?_
          refine cr_istore5 (pc := 47) C dX4_syncsForRead_47 (by decide) rfl ?_
          refine cr_iload_n (pc := 49) C dX4_syncsForRead_49 rfl ?_
          refine cr_iconst (pc := 50) (v := (-1)) C dX4_syncsForRead_50 (by decide) ?_
          refine cr_icmp_eq_f (pc := 51) (tgt := 66) C dX4_syncsForRead_51 (by decide) (by decide) ?_
          refine cr_iload (pc := 54) C dX4_syncsForRead_54 rfl ?_
          refine cr_dS (pc := 56) C (sm_bits (by decide)) rfl gX4_syncsForRead_X4_bits rfl dX4_syncsForRead_56 hsX4_bits rfl ⟨rfl, rfl, Nat.le_of_ble_eq_true rfl, Nat.le_of_ble_eq_true rfl⟩ (Nat.le_of_ble_eq_true rfl) rfl ?_
          rw [show cg_pc 5 = 2 by decide]
          refine cr_iload_n (pc := 59) C dX4_syncsForRead_59 rfl ?_
          refine cr_dS (pc := 60) C (sm_bits (by decide)) rfl gX4_syncsForRead_X4_bits rfl dX4_syncsForRead_60 hsX4_bits rfl ⟨rfl, rfl, Nat.le_of_ble_eq_true rfl, Nat.le_of_ble_eq_true rfl⟩ (Nat.le_of_ble_eq_true rfl) rfl ?_
          rw [show cg_pc 2 = 1 by decide]
          refine cr_icmp_ge_t (pc := 63) (tgt := 70) C dX4_syncsForRead_63 (by decide) (by decide) ?_
          refine cr_iconst (pc := 70) (v := nI 0) C dX4_syncsForRead_70 (by decide) ?_
          refine cr_istore6 (pc := 71) C dX4_syncsForRead_71 (by decide) rfl ?_
          refine cr_iload (pc := 73) C dX4_syncsForRead_73 rfl ?_
          refine cr_if_eq_t (pc := 75) (tgt := 102) C dX4_syncsForRead_75 (by decide) (by decide) ?_
          refine cr_iload_n (pc := 102) C dX4_syncsForRead_102 rfl ?_
          refine cr_istore_n3 (pc := 103) C dX4_syncsForRead_103 (by decide) rfl ?_
          refine cr_iinc4 (pc := 104) (v := nI 6) C dX4_syncsForRead_104 (by decide) (by decide) rfl ?_
          refine cr_goto (pc := 107) (tgt := 26) C dX4_syncsForRead_107 (by decide) ?_
          refine cr_iload (pc := 26) C dX4_syncsForRead_26 rfl ?_
          refine cr_bipush (pc := 28) (v := nI 8) C dX4_syncsForRead_28 (by decide) ?_
          refine cr_icmp_ge_f (pc := 30) (tgt := 110) C dX4_syncsForRead_30 (by decide) (by decide) ?_
          refine cr_iload (pc := 33) C dX4_syncsForRead_33 rfl ?_
          refine cr_iload_n (pc := 35) C dX4_syncsForRead_35 rfl ?_
          refine cr_ishr (pc := 36) C dX4_syncsForRead_36 ?_
          refine cr_iconst (pc := 37) (v := nI 1) C dX4_syncsForRead_37 (by decide) ?_
          refine cr_iand (pc := 38) C dX4_syncsForRead_38 ?_
          refine cr_if_ne_t (pc := 39) (tgt := 46) C dX4_syncsForRead_39 (by decide) (by decide) ?_
          refine cr_iconst (pc := 46) (v := nI 0) C dX4_syncsForRead_46 (by decide) ?_
          refine cr_istore5 (pc := 47) C dX4_syncsForRead_47 (by decide) rfl ?_
          refine cr_iload_n (pc := 49) C dX4_syncsForRead_49 rfl ?_
          refine cr_iconst (pc := 50) (v := (-1)) C dX4_syncsForRead_50 (by decide) ?_
          refine cr_icmp_eq_f (pc := 51) (tgt := 66) C dX4_syncsForRead_51 (by decide) (by decide) ?_
          refine cr_iload (pc := 54) C dX4_syncsForRead_54 rfl ?_
          refine cr_dS (pc := 56) C (sm_bits (by decide)) rfl gX4_syncsForRead_X4_bits rfl dX4_syncsForRead_56 hsX4_bits rfl ⟨rfl, rfl, Nat.le_of_ble_eq_true rfl, Nat.le_of_ble_eq_true rfl⟩ (Nat.le_of_ble_eq_true rfl) rfl ?_
          rw [show cg_pc 6 = 2 by decide]
          refine cr_iload_n (pc := 59) C dX4_syncsForRead_59 rfl ?_
          refine cr_dS (pc := 60) C (sm_bits (by decide)) rfl gX4_syncsForRead_X4_bits rfl dX4_syncsForRead_60 hsX4_bits rfl ⟨rfl, rfl, Nat.le_of_ble_eq_true rfl, Nat.le_of_ble_eq_true rfl⟩ (Nat.le_of_ble_eq_true rfl) rfl ?_
          rw [show cg_pc 2 = 1 by decide]
          refine cr_icmp_ge_t (pc := 63) (tgt := 70) C dX4_syncsForRead_63 (by decide) (by decide) ?_
          refine cr_iconst (pc := 70) (v := nI 0) C dX4_syncsForRead_70 (by decide) ?_
          refine cr_istore6 (pc := 71) C dX4_syncsForRead_71 (by decide) rfl ?_
          refine cr_iload (pc := 73) C dX4_syncsForRead_73 rfl ?_
          refine cr_if_eq_t (pc := 75) (tgt := 102) C dX4_syncsForRead_75 (by decide) (by decide) ?_
          refine cr_iload_n (pc := 102) C dX4_syncsForRead_102 rfl ?_
          refine cr_istore_n3 (pc := 103) C dX4_syncsForRead_103 (by decide) rfl ?_
          refine cr_iinc4 (pc := 104) (v := nI 7) C dX4_syncsForRead_104 (by decide) (by decide) rfl ?_
          refine cr_goto (pc := 107) (tgt := 26) C dX4_syncsForRead_107 (by decide) ?_
          refine cr_iload (pc := 26) C dX4_syncsForRead_26 rfl ?_
          refine cr_bipush (pc := 28) (v := nI 8) C dX4_syncsForRead_28 (by decide) ?_
          refine cr_icmp_ge_f (pc := 30) (tgt := 110) C dX4_syncsForRead_30 (by decide) (by decide) ?_
          refine cr_iload (pc := 33) C dX4_syncsForRead_33 rfl ?_
          refine cr_iload_n (pc := 35) C dX4_syncsForRead_35 rfl ?_
          refine cr_ishr (pc := 36) C dX4_syncsForRead_36 ?_
          refine cr_iconst (pc := 37) (v := nI 1) C dX4_syncsForRead_37 (by decide) ?_
          refine cr_iand (pc := 38) C dX4_syncsForRead_38 ?_
          refine cr_if_ne_t (pc := 39) (tgt := 46) C dX4_syncsForRead_39 (by decide) (by decide) ?_
          refine cr_iconst (pc := 46) (v := nI 0) C dX4_syncsForRead_46 (by decide) ?_
          refine cr_istore5 (pc := 47) C dX4_syncsForRead_47 (by decide) rfl ?_
          refine cr_iload_n (pc := 49) C dX4_syncsForRead_49 rfl ?_
          refine cr_iconst (pc := 50) (v := (-1)) C dX4_syncsForRead_50 (by decide) ?_
          refine cr_icmp_eq_f (pc := 51) (tgt := 66) C dX4_syncsForRead_51 (by decide) (by decide) ?_
          refine cr_iload (pc := 54) C dX4_syncsForRead_54 rfl ?_
          refine cr_dS (pc := 56) C (sm_bits (by decide)) rfl gX4_syncsForRead_X4_bits rfl dX4_syncsForRead_56 hsX4_bits rfl ⟨rfl, rfl, Nat.le_of_ble_eq_true rfl, Nat.le_of_ble_eq_true rfl⟩ (Nat.le_of_ble_eq_true rfl) rfl ?_
          rw [show cg_pc 7 = 3 by decide]
          refine cr_iload_n (pc := 59) C dX4_syncsForRead_59 rfl ?_
          refine cr_dS (pc := 60) C (sm_bits (by decide)) rfl gX4_syncsForRead_X4_bits rfl dX4_syncsForRead_60 hsX4_bits rfl ⟨rfl, rfl, Nat.le_of_ble_eq_true rfl, Nat.le_of_ble_eq_true rfl⟩ (Nat.le_of_ble_eq_true rfl) rfl ?_
          rw [show cg_pc 2 = 1 by decide]
          refine cr_icmp_ge_t (pc := 63) (tgt := 70) C dX4_syncsForRead_63 (by decide) (by decide) ?_
          refine cr_iconst (pc := 70) (v := nI 0) C dX4_syncsForRead_70 (by decide) ?_
          refine cr_istore6 (pc := 71) C dX4_syncsForRead_71 (by decide) rfl ?_
          refine cr_iload (pc := 73) C dX4_syncsForRead_73 rfl ?_
          refine cr_if_eq_t (pc := 75) (tgt := 102) C dX4_syncsForRead_75 (by decide) (by decide) ?_
          refine cr_iload_n (pc := 102) C dX4_syncsForRead_102 rfl ?_
          refine cr_istore_n3 (pc := 103) C dX4_syncsForRead_103 (by decide) rfl ?_
          refine cr_iinc4 (pc := 104) (v := nI 8) C dX4_syncsForRead_104 (by decide) (by decide) rfl ?_
          refine cr_goto (pc := 107) (tgt := 26) C dX4_syncsForRead_107 (by decide) ?_
          refine cr_iload (pc := 26) C dX4_syncsForRead_26 rfl ?_
          refine cr_bipush (pc := 28) (v := nI 8) C dX4_syncsForRead_28 (by decide) ?_
          refine cr_icmp_ge_t (pc := 30) (tgt := 110) C dX4_syncsForRead_30 (by decide) (by decide) ?_
          refine cr_iload_n (pc := 110) C dX4_syncsForRead_110 rfl ?_
          refine cr_ireturn (pc := 111) C X dX4_syncsForRead_111 ?_
          exact ⟨by unfold cg_sf cg_s4; simp [*], cg_sb_id M 20⟩
      · have e1 := cg_bt h94
        refine cr_iload (pc := 97) C dX4_syncsForRead_97 rfl ?_
        refine cr_goto (pc := 99) (tgt := 103) C dX4_syncsForRead_99 (by decide) ?_
        refine cr_istore_n3 (pc := 103) C dX4_syncsForRead_103 (by decide) rfl ?_
        refine cr_iinc4 (pc := 104) (v := nI 2) C dX4_syncsForRead_104 (by decide) (by decide) rfl ?_
        refine cr_goto (pc := 107) (tgt := 26) C dX4_syncsForRead_107 (by decide) ?_
        refine cr_iload (pc := 26) C dX4_syncsForRead_26 rfl ?_
        refine cr_bipush (pc := 28) (v := nI 8) C dX4_syncsForRead_28 (by decide) ?_
        refine cr_icmp_ge_f (pc := 30) (tgt := 110) C dX4_syncsForRead_30 (by decide) (by decide) ?_
        refine cr_iload (pc := 33) C dX4_syncsForRead_33 rfl ?_
        refine cr_iload_n (pc := 35) C dX4_syncsForRead_35 rfl ?_
        refine cr_ishr (pc := 36) C dX4_syncsForRead_36 ?_
        refine cr_iconst (pc := 37) (v := nI 1) C dX4_syncsForRead_37 (by decide) ?_
        refine cr_iand (pc := 38) C dX4_syncsForRead_38 ?_
        refine cr_if_ne_f (pc := 39) (tgt := 46) C dX4_syncsForRead_39 (by decide) (by decide) ?_
        refine cr_iconst (pc := 42) (v := nI 1) C dX4_syncsForRead_42 (by decide) ?_
        refine cr_goto (pc := 43) (tgt := 47) C dX4_syncsForRead_43 (by decide) ?_
        refine cr_istore5 (pc := 47) C dX4_syncsForRead_47 (by decide) rfl ?_
        refine cr_iload_n (pc := 49) C dX4_syncsForRead_49 rfl ?_
        refine cr_iconst (pc := 50) (v := (-1)) C dX4_syncsForRead_50 (by decide) ?_
        refine cr_icmp_eq_f (pc := 51) (tgt := 66) C dX4_syncsForRead_51 (by decide) (by decide) ?_
        refine cr_iload (pc := 54) C dX4_syncsForRead_54 rfl ?_
        refine cr_dS (pc := 56) C (sm_bits (by decide)) rfl gX4_syncsForRead_X4_bits rfl dX4_syncsForRead_56 hsX4_bits rfl ⟨rfl, rfl, Nat.le_of_ble_eq_true rfl, Nat.le_of_ble_eq_true rfl⟩ (Nat.le_of_ble_eq_true rfl) rfl ?_
        rw [show cg_pc 2 = 1 by decide]
        refine cr_iload_n (pc := 59) C dX4_syncsForRead_59 rfl ?_
        refine cr_dS (pc := 60) C (sm_bits (by decide)) rfl gX4_syncsForRead_X4_bits rfl dX4_syncsForRead_60 hsX4_bits rfl ⟨rfl, rfl, Nat.le_of_ble_eq_true rfl, Nat.le_of_ble_eq_true rfl⟩ (Nat.le_of_ble_eq_true rfl) rfl ?_
        rw [show cg_pc 1 = 1 by decide]
        refine cr_icmp_ge_t (pc := 63) (tgt := 70) C dX4_syncsForRead_63 (by decide) (by decide) ?_
        refine cr_iconst (pc := 70) (v := nI 0) C dX4_syncsForRead_70 (by decide) ?_
        refine cr_istore6 (pc := 71) C dX4_syncsForRead_71 (by decide) rfl ?_
        refine cr_iload (pc := 73) C dX4_syncsForRead_73 rfl ?_
        refine cr_if_eq_f (pc := 75) (tgt := 102) C dX4_syncsForRead_75 (by decide) (by decide) ?_
        refine cr_iload (pc := 78) C dX4_syncsForRead_78 rfl ?_
        refine cr_if_eq_t (pc := 80) (tgt := 102) C dX4_syncsForRead_80 (by decide) (by decide) ?_
        refine cr_iload_n (pc := 102) C dX4_syncsForRead_102 rfl ?_
        refine cr_istore_n3 (pc := 103) C dX4_syncsForRead_103 (by decide) rfl ?_
        refine cr_iinc4 (pc := 104) (v := nI 3) C dX4_syncsForRead_104 (by decide) (by decide) rfl ?_
        refine cr_goto (pc := 107) (tgt := 26) C dX4_syncsForRead_107 (by decide) ?_
        refine cr_iload (pc := 26) C dX4_syncsForRead_26 rfl ?_
        refine cr_bipush (pc := 28) (v := nI 8) C dX4_syncsForRead_28 (by decide) ?_
        refine cr_icmp_ge_f (pc := 30) (tgt := 110) C dX4_syncsForRead_30 (by decide) (by decide) ?_
        refine cr_iload (pc := 33) C dX4_syncsForRead_33 rfl ?_
        refine cr_iload_n (pc := 35) C dX4_syncsForRead_35 rfl ?_
        refine cr_ishr (pc := 36) C dX4_syncsForRead_36 ?_
        refine cr_iconst (pc := 37) (v := nI 1) C dX4_syncsForRead_37 (by decide) ?_
        refine cr_iand (pc := 38) C dX4_syncsForRead_38 ?_
        refine cr_if_ne_f (pc := 39) (tgt := 46) C dX4_syncsForRead_39 (by decide) (by decide) ?_
        refine cr_iconst (pc := 42) (v := nI 1) C dX4_syncsForRead_42 (by decide) ?_
        refine cr_goto (pc := 43) (tgt := 47) C dX4_syncsForRead_43 (by decide) ?_
        refine cr_istore5 (pc := 47) C dX4_syncsForRead_47 (by decide) rfl ?_
        refine cr_iload_n (pc := 49) C dX4_syncsForRead_49 rfl ?_
        refine cr_iconst (pc := 50) (v := (-1)) C dX4_syncsForRead_50 (by decide) ?_
        refine cr_icmp_eq_f (pc := 51) (tgt := 66) C dX4_syncsForRead_51 (by decide) (by decide) ?_
        refine cr_iload (pc := 54) C dX4_syncsForRead_54 rfl ?_
        refine cr_dS (pc := 56) C (sm_bits (by decide)) rfl gX4_syncsForRead_X4_bits rfl dX4_syncsForRead_56 hsX4_bits rfl ⟨rfl, rfl, Nat.le_of_ble_eq_true rfl, Nat.le_of_ble_eq_true rfl⟩ (Nat.le_of_ble_eq_true rfl) rfl ?_
        rw [show cg_pc 3 = 2 by decide]
        refine cr_iload_n (pc := 59) C dX4_syncsForRead_59 rfl ?_
        refine cr_dS (pc := 60) C (sm_bits (by decide)) rfl gX4_syncsForRead_X4_bits rfl dX4_syncsForRead_60 hsX4_bits rfl ⟨rfl, rfl, Nat.le_of_ble_eq_true rfl, Nat.le_of_ble_eq_true rfl⟩ (Nat.le_of_ble_eq_true rfl) rfl ?_
        rw [show cg_pc 1 = 1 by decide]
        refine cr_icmp_ge_t (pc := 63) (tgt := 70) C dX4_syncsForRead_63 (by decide) (by decide) ?_
        refine cr_iconst (pc := 70) (v := nI 0) C dX4_syncsForRead_70 (by decide) ?_
        refine cr_istore6 (pc := 71) C dX4_syncsForRead_71 (by decide) rfl ?_
        refine cr_iload (pc := 73) C dX4_syncsForRead_73 rfl ?_
        refine cr_if_eq_f (pc := 75) (tgt := 102) C dX4_syncsForRead_75 (by decide) (by decide) ?_
        refine cr_iload (pc := 78) C dX4_syncsForRead_78 rfl ?_
        refine cr_if_eq_t (pc := 80) (tgt := 102) C dX4_syncsForRead_80 (by decide) (by decide) ?_
        refine cr_iload_n (pc := 102) C dX4_syncsForRead_102 rfl ?_
        refine cr_istore_n3 (pc := 103) C dX4_syncsForRead_103 (by decide) rfl ?_
        refine cr_iinc4 (pc := 104) (v := nI 4) C dX4_syncsForRead_104 (by decide) (by decide) rfl ?_
        refine cr_goto (pc := 107) (tgt := 26) C dX4_syncsForRead_107 (by decide) ?_
        refine cr_iload (pc := 26) C dX4_syncsForRead_26 rfl ?_
        refine cr_bipush (pc := 28) (v := nI 8) C dX4_syncsForRead_28 (by decide) ?_
        refine cr_icmp_ge_f (pc := 30) (tgt := 110) C dX4_syncsForRead_30 (by decide) (by decide) ?_
        refine cr_iload (pc := 33) C dX4_syncsForRead_33 rfl ?_
        refine cr_iload_n (pc := 35) C dX4_syncsForRead_35 rfl ?_
        refine cr_ishr (pc := 36) C dX4_syncsForRead_36 ?_
        refine cr_iconst (pc := 37) (v := nI 1) C dX4_syncsForRead_37 (by decide) ?_
        refine cr_iand (pc := 38) C dX4_syncsForRead_38 ?_
        refine cr_if_ne_t (pc := 39) (tgt := 46) C dX4_syncsForRead_39 (by decide) (by decide) ?_
        refine cr_iconst (pc := 46) (v := nI 0) C dX4_syncsForRead_46 (by decide) ?_
        refine cr_istore5 (pc := 47) C dX4_syncsForRead_47 (by decide) rfl ?_
        refine cr_iload_n (pc := 49) C dX4_syncsForRead_49 rfl ?_
        refine cr_iconst (pc := 50) (v := (-1)) C dX4_syncsForRead_50 (by decide) ?_
        refine cr_icmp_eq_f (pc := 51) (tgt := 66) C dX4_syncsForRead_51 (by decide) (by decide) ?_
        refine cr_iload (pc := 54) C dX4_syncsForRead_54 rfl ?_
        refine cr_dS (pc := 56) C (sm_bits (by decide)) rfl gX4_syncsForRead_X4_bits rfl dX4_syncsForRead_56 hsX4_bits rfl ⟨rfl, rfl, Nat.le_of_ble_eq_true rfl, Nat.le_of_ble_eq_true rfl⟩ (Nat.le_of_ble_eq_true rfl) rfl ?_
        rw [show cg_pc 4 = 1 by decide]
        refine cr_iload_n (pc := 59) C dX4_syncsForRead_59 rfl ?_
        refine cr_dS (pc := 60) C (sm_bits (by decide)) rfl gX4_syncsForRead_X4_bits rfl dX4_syncsForRead_60 hsX4_bits rfl ⟨rfl, rfl, Nat.le_of_ble_eq_true rfl, Nat.le_of_ble_eq_true rfl⟩ (Nat.le_of_ble_eq_true rfl) rfl ?_
        rw [show cg_pc 1 = 1 by decide]
        refine cr_icmp_ge_t (pc := 63) (tgt := 70) C dX4_syncsForRead_63 (by decide) (by decide) ?_
        refine cr_iconst (pc := 70) (v := nI 0) C dX4_syncsForRead_70 (by decide) ?_
        refine cr_istore6 (pc := 71) C dX4_syncsForRead_71 (by decide) rfl ?_
        refine cr_iload (pc := 73) C dX4_syncsForRead_73 rfl ?_
        refine cr_if_eq_t (pc := 75) (tgt := 102) C dX4_syncsForRead_75 (by decide) (by decide) ?_
        refine cr_iload_n (pc := 102) C dX4_syncsForRead_102 rfl ?_
        refine cr_istore_n3 (pc := 103) C dX4_syncsForRead_103 (by decide) rfl ?_
        refine cr_iinc4 (pc := 104) (v := nI 5) C dX4_syncsForRead_104 (by decide) (by decide) rfl ?_
        refine cr_goto (pc := 107) (tgt := 26) C dX4_syncsForRead_107 (by decide) ?_
        refine cr_iload (pc := 26) C dX4_syncsForRead_26 rfl ?_
        refine cr_bipush (pc := 28) (v := nI 8) C dX4_syncsForRead_28 (by decide) ?_
        refine cr_icmp_ge_f (pc := 30) (tgt := 110) C dX4_syncsForRead_30 (by decide) (by decide) ?_
        refine cr_iload (pc := 33) C dX4_syncsForRead_33 rfl ?_
        refine cr_iload_n (pc := 35) C dX4_syncsForRead_35 rfl ?_
        refine cr_ishr (pc := 36) C dX4_syncsForRead_36 ?_
        refine cr_iconst (pc := 37) (v := nI 1) C dX4_syncsForRead_37 (by decide) ?_
        refine cr_iand (pc := 38) C dX4_syncsForRead_38 ?_
        refine cr_if_ne_t (pc := 39) (tgt := 46) C dX4_syncsForRead_39 (by decide) (by decide) ?_
        refine cr_iconst (pc := 46) (v := nI 0) C dX4_syncsForRead_46 (by decide) ?_
        refine cr_istore5 (pc := 47) C dX4_syncsForRead_47 (by decide) rfl ?_
        refine cr_iload_n (pc := 49) C dX4_syncsForRead_49 rfl ?_
        refine cr_iconst (pc := 50) (v := (-1)) C dX4_syncsForRead_50 (by decide) ?_
        refine cr_icmp_eq_f (pc := 51) (tgt := 66) C dX4_syncsForRead_51 (by decide) (by decide) ?_
        refine cr_iload (pc := 54) C dX4_syncsForRead_54 rfl ?_
        refine cr_dS (pc := 56) C (sm_bits (by decide)) rfl gX4_syncsForRead_X4_bits rfl dX4_syncsForRead_56 hsX4_bits rfl ⟨rfl, rfl, Nat.le_of_ble_eq_true rfl, Nat.le_of_ble_eq_true rfl⟩ (Nat.le_of_ble_eq_true rfl) rfl ?_
        rw [show cg_pc 5 = 2 by decide]
        refine cr_iload_n (pc := 59) C dX4_syncsForRead_59 rfl ?_
        refine cr_dS (pc := 60) C (sm_bits (by decide)) rfl gX4_syncsForRead_X4_bits rfl dX4_syncsForRead_60 hsX4_bits rfl ⟨rfl, rfl, Nat.le_of_ble_eq_true rfl, Nat.le_of_ble_eq_true rfl⟩ (Nat.le_of_ble_eq_true rfl) rfl ?_
        rw [show cg_pc 1 = 1 by decide]
        refine cr_icmp_ge_t (pc := 63) (tgt := 70) C dX4_syncsForRead_63 (by decide) (by decide) ?_
        refine cr_iconst (pc := 70) (v := nI 0) C dX4_syncsForRead_70 (by decide) ?_
        refine cr_istore6 (pc := 71) C dX4_syncsForRead_71 (by decide) rfl ?_
        refine cr_iload (pc := 73) C dX4_syncsForRead_73 rfl ?_
        refine cr_if_eq_t (pc := 75) (tgt := 102) C dX4_syncsForRead_75 (by decide) (by decide) ?_
        refine cr_iload_n (pc := 102) C dX4_syncsForRead_102 rfl ?_
        refine cr_istore_n3 (pc := 103) C dX4_syncsForRead_103 (by decide) rfl ?_
        refine cr_iinc4 (pc := 104) (v := nI 6) C dX4_syncsForRead_104 (by decide) (by decide) rfl ?_
        refine cr_goto (pc := 107) (tgt := 26) C dX4_syncsForRead_107 (by decide) ?_
        refine cr_iload (pc := 26) C dX4_syncsForRead_26 rfl ?_
        refine cr_bipush (pc := 28) (v := nI 8) C dX4_syncsForRead_28 (by decide) ?_
        refine cr_icmp_ge_f (pc := 30) (tgt := 110) C dX4_syncsForRead_30 (by decide) (by decide) ?_
        refine cr_iload (pc := 33) C dX4_syncsForRead_33 rfl ?_
        refine cr_iload_n (pc := 35) C dX4_syncsForRead_35 rfl ?_
        refine cr_ishr (pc := 36) C dX4_syncsForRead_36 ?_
        refine cr_iconst (pc := 37) (v := nI 1) C dX4_syncsForRead_37 (by decide) ?_
        refine cr_iand (pc := 38) C dX4_syncsForRead_38 ?_
        refine cr_if_ne_t (pc := 39) (tgt := 46) C dX4_syncsForRead_39 (by decide) (by decide) ?_
        refine cr_iconst (pc := 46) (v := nI 0) C dX4_syncsForRead_46 (by decide) ?_
        refine cr_istore5 (pc := 47) C dX4_syncsForRead_47 (by decide) rfl ?_
        refine cr_iload_n (pc := 49) C dX4_syncsForRead_49 rfl ?_
        refine cr_iconst (pc := 50) (v := (-1)) C dX4_syncsForRead_50 (by decide) ?_
        refine cr_icmp_eq_f (pc := 51) (tgt := 66) C dX4_syncsForRead_51 (by decide) (by decide) ?_
        refine cr_iload (pc := 54) C dX4_syncsForRead_54 rfl ?_
        refine cr_dS (pc := 56) C (sm_bits (by decide)) rfl gX4_syncsForRead_X4_bits rfl dX4_syncsForRead_56 hsX4_bits rfl ⟨rfl, rfl, Nat.le_of_ble_eq_true rfl, Nat.le_of_ble_eq_true rfl⟩ (Nat.le_of_ble_eq_true rfl) rfl ?_
        rw [show cg_pc 6 = 2 by decide]
        refine cr_iload_n (pc := 59) C dX4_syncsForRead_59 rfl ?_
        refine cr_dS (pc := 60) C (sm_bits (by decide)) rfl gX4_syncsForRead_X4_bits rfl dX4_syncsForRead_60 hsX4_bits rfl ⟨rfl, rfl, Nat.le_of_ble_eq_true rfl, Nat.le_of_ble_eq_true rfl⟩ (Nat.le_of_ble_eq_true rfl) rfl ?_
        rw [show cg_pc 1 = 1 by decide]
        refine cr_icmp_ge_t (pc := 63) (tgt := 70) C dX4_syncsForRead_63 (by decide) (by decide) ?_
        refine cr_iconst (pc := 70) (v := nI 0) C dX4_syncsForRead_70 (by decide) ?_
        refine cr_istore6 (pc := 71) C dX4_syncsForRead_71 (by decide) rfl ?_
        refine cr_iload (pc := 73) C dX4_syncsForRead_73 rfl ?_
        refine cr_if_eq_t (pc := 75) (tgt := 102) C dX4_syncsForRead_75 (by decide) (by decide) ?_
        refine cr_iload_n (pc := 102) C dX4_syncsForRead_102 rfl ?_
        refine cr_istore_n3 (pc := 103) C dX4_syncsForRead_103 (by decide) rfl ?_
        refine cr_iinc4 (pc := 104) (v := nI 7) C dX4_syncsForRead_104 (by decide) (by decide) rfl ?_
        refine cr_goto (pc := 107) (tgt := 26) C dX4_syncsForRead_107 (by decide) ?_
        refine cr_iload (pc := 26) C dX4_syncsForRead_26 rfl ?_
        refine cr_bipush (pc := 28) (v := nI 8) C dX4_syncsForRead_28 (by decide) ?_
        refine cr_icmp_ge_f (pc := 30) (tgt := 110) C dX4_syncsForRead_30 (by decide) (by decide) ?_
        refine cr_iload (pc := 33) C dX4_syncsForRead_33 rfl ?_
        refine cr_iload_n (pc := 35) C dX4_syncsForRead_35 rfl ?_
        refine cr_ishr (pc := 36) C dX4_syncsForRead_36 ?_
        refine cr_iconst (pc := 37) (v := nI 1) C dX4_syncsForRead_37 (by decide) ?_
        refine cr_iand (pc := 38) C dX4_syncsForRead_38 ?_
        refine cr_if_ne_t (pc := 39) (tgt := 46) C dX4_syncsForRead_39 (by decide) (by decide) ?_
        refine cr_iconst (pc := 46) (v := nI 0) C dX4_syncsForRead_46 (by decide) ?_
        refine cr_istore5 (pc := 47) C dX4_syncsForRead_47 (by decide) rfl ?_
        refine cr_iload_n (pc := 49) C dX4_syncsForRead_49 rfl ?_
        refine cr_iconst (pc := 50) (v := (-1)) C dX4_syncsForRead_50 (by decide) ?_
        refine cr_icmp_eq_f (pc := 51) (tgt := 66) C dX4_syncsForRead_51 (by decide) (by decide) ?_
        refine cr_iload (pc := 54) C dX4_syncsForRead_54 rfl ?_
        refine cr_dS (pc := 56) C (sm_bits (by decide)) rfl gX4_syncsForRead_X4_bits rfl dX4_syncsForRead_56 hsX4_bits rfl ⟨rfl, rfl, Nat.le_of_ble_eq_true rfl, Nat.le_of_ble_eq_true rfl⟩ (Nat.le_of_ble_eq_true rfl) rfl ?_
        rw [show cg_pc 7 = 3 by decide]
        refine cr_iload_n (pc := 59) C dX4_syncsForRead_59 rfl ?_
        refine cr_dS (pc := 60) C (sm_bits (by decide)) rfl gX4_syncsForRead_X4_bits rfl dX4_syncsForRead_60 hsX4_bits rfl ⟨rfl, rfl, Nat.le_of_ble_eq_true rfl, Nat.le_of_ble_eq_true rfl⟩ (Nat.le_of_ble_eq_true rfl) rfl ?_
        rw [show cg_pc 1 = 1 by decide]
        refine cr_icmp_ge_t (pc := 63) (tgt := 70) C dX4_syncsForRead_63 (by decide) (by decide) ?_
        refine cr_iconst (pc := 70) (v := nI 0) C dX4_syncsForRead_70 (by decide) ?_
        refine cr_istore6 (pc := 71) C dX4_syncsForRead_71 (by decide) rfl ?_
        refine cr_iload (pc := 73) C dX4_syncsForRead_73 rfl ?_
        refine cr_if_eq_t (pc := 75) (tgt := 102) C dX4_syncsForRead_75 (by decide) (by decide) ?_
        refine cr_iload_n (pc := 102) C dX4_syncsForRead_102 rfl ?_
        refine cr_istore_n3 (pc := 103) C dX4_syncsForRead_103 (by decide) rfl ?_
        refine cr_iinc4 (pc := 104) (v := nI 8) C dX4_syncsForRead_104 (by decide) (by decide) rfl ?_
        refine cr_goto (pc := 107) (tgt := 26) C dX4_syncsForRead_107 (by decide) ?_
        refine cr_iload (pc := 26) C dX4_syncsForRead_26 rfl ?_
        refine cr_bipush (pc := 28) (v := nI 8) C dX4_syncsForRead_28 (by decide) ?_
        refine cr_icmp_ge_t (pc := 30) (tgt := 110) C dX4_syncsForRead_30 (by decide) (by decide) ?_
        refine cr_iload_n (pc := 110) C dX4_syncsForRead_110 rfl ?_
        refine cr_ireturn (pc := 111) C X dX4_syncsForRead_111 ?_
        exact ⟨by unfold cg_sf cg_s4; simp [*], cg_sb_id M 20⟩
    · have e0 := cg_bt h94
      refine cr_iload (pc := 97) C dX4_syncsForRead_97 rfl ?_
      refine cr_goto (pc := 99) (tgt := 103) C dX4_syncsForRead_99 (by decide) ?_
      refine cr_istore_n3 (pc := 103) C dX4_syncsForRead_103 (by decide) rfl ?_
      refine cr_iinc4 (pc := 104) (v := nI 1) C dX4_syncsForRead_104 (by decide) (by decide) rfl ?_
      refine cr_goto (pc := 107) (tgt := 26) C dX4_syncsForRead_107 (by decide) ?_
      refine cr_iload (pc := 26) C dX4_syncsForRead_26 rfl ?_
      refine cr_bipush (pc := 28) (v := nI 8) C dX4_syncsForRead_28 (by decide) ?_
      refine cr_icmp_ge_f (pc := 30) (tgt := 110) C dX4_syncsForRead_30 (by decide) (by decide) ?_
      refine cr_iload (pc := 33) C dX4_syncsForRead_33 rfl ?_
      refine cr_iload_n (pc := 35) C dX4_syncsForRead_35 rfl ?_
      refine cr_ishr (pc := 36) C dX4_syncsForRead_36 ?_
      refine cr_iconst (pc := 37) (v := nI 1) C dX4_syncsForRead_37 (by decide) ?_
      refine cr_iand (pc := 38) C dX4_syncsForRead_38 ?_
      refine cr_if_ne_f (pc := 39) (tgt := 46) C dX4_syncsForRead_39 (by decide) (by decide) ?_
      refine cr_iconst (pc := 42) (v := nI 1) C dX4_syncsForRead_42 (by decide) ?_
      refine cr_goto (pc := 43) (tgt := 47) C dX4_syncsForRead_43 (by decide) ?_
      refine cr_istore5 (pc := 47) C dX4_syncsForRead_47 (by decide) rfl ?_
      refine cr_iload_n (pc := 49) C dX4_syncsForRead_49 rfl ?_
      refine cr_iconst (pc := 50) (v := (-1)) C dX4_syncsForRead_50 (by decide) ?_
      refine cr_icmp_eq_f (pc := 51) (tgt := 66) C dX4_syncsForRead_51 (by decide) (by decide) ?_
      refine cr_iload (pc := 54) C dX4_syncsForRead_54 rfl ?_
      refine cr_dS (pc := 56) C (sm_bits (by decide)) rfl gX4_syncsForRead_X4_bits rfl dX4_syncsForRead_56 hsX4_bits rfl ⟨rfl, rfl, Nat.le_of_ble_eq_true rfl, Nat.le_of_ble_eq_true rfl⟩ (Nat.le_of_ble_eq_true rfl) rfl ?_
      rw [show cg_pc 1 = 1 by decide]
      refine cr_iload_n (pc := 59) C dX4_syncsForRead_59 rfl ?_
      refine cr_dS (pc := 60) C (sm_bits (by decide)) rfl gX4_syncsForRead_X4_bits rfl dX4_syncsForRead_60 hsX4_bits rfl ⟨rfl, rfl, Nat.le_of_ble_eq_true rfl, Nat.le_of_ble_eq_true rfl⟩ (Nat.le_of_ble_eq_true rfl) rfl ?_
      rw [show cg_pc 0 = 0 by decide]
      refine cr_icmp_ge_t (pc := 63) (tgt := 70) C dX4_syncsForRead_63 (by decide) (by decide) ?_
      refine cr_iconst (pc := 70) (v := nI 0) C dX4_syncsForRead_70 (by decide) ?_
      refine cr_istore6 (pc := 71) C dX4_syncsForRead_71 (by decide) rfl ?_
      refine cr_iload (pc := 73) C dX4_syncsForRead_73 rfl ?_
      refine cr_if_eq_f (pc := 75) (tgt := 102) C dX4_syncsForRead_75 (by decide) (by decide) ?_
      refine cr_iload (pc := 78) C dX4_syncsForRead_78 rfl ?_
      refine cr_if_eq_t (pc := 80) (tgt := 102) C dX4_syncsForRead_80 (by decide) (by decide) ?_
      refine cr_iload_n (pc := 102) C dX4_syncsForRead_102 rfl ?_
      refine cr_istore_n3 (pc := 103) C dX4_syncsForRead_103 (by decide) rfl ?_
      refine cr_iinc4 (pc := 104) (v := nI 2) C dX4_syncsForRead_104 (by decide) (by decide) rfl ?_
      refine cr_goto (pc := 107) (tgt := 26) C dX4_syncsForRead_107 (by decide) ?_
      refine cr_iload (pc := 26) C dX4_syncsForRead_26 rfl ?_
      refine cr_bipush (pc := 28) (v := nI 8) C dX4_syncsForRead_28 (by decide) ?_
      refine cr_icmp_ge_f (pc := 30) (tgt := 110) C dX4_syncsForRead_30 (by decide) (by decide) ?_
      refine cr_iload (pc := 33) C dX4_syncsForRead_33 rfl ?_
      refine cr_iload_n (pc := 35) C dX4_syncsForRead_35 rfl ?_
      refine cr_ishr (pc := 36) C dX4_syncsForRead_36 ?_
      refine cr_iconst (pc := 37) (v := nI 1) C dX4_syncsForRead_37 (by decide) ?_
      refine cr_iand (pc := 38) C dX4_syncsForRead_38 ?_
      refine cr_if_ne_f (pc := 39) (tgt := 46) C dX4_syncsForRead_39 (by decide) (by decide) ?_
      refine cr_iconst (pc := 42) (v := nI 1) C dX4_syncsForRead_42 (by decide) ?_
      refine cr_goto (pc := 43) (tgt := 47) C dX4_syncsForRead_43 (by decide) ?_
      refine cr_istore5 (pc := 47) C dX4_syncsForRead_47 (by decide) rfl ?_
      refine cr_iload_n (pc := 49) C dX4_syncsForRead_49 rfl ?_
      refine cr_iconst (pc := 50) (v := (-1)) C dX4_syncsForRead_50 (by decide) ?_
      refine cr_icmp_eq_f (pc := 51) (tgt := 66) C dX4_syncsForRead_51 (by decide) (by decide) ?_
      refine cr_iload (pc := 54) C dX4_syncsForRead_54 rfl ?_
      refine cr_dS (pc := 56) C (sm_bits (by decide)) rfl gX4_syncsForRead_X4_bits rfl dX4_syncsForRead_56 hsX4_bits rfl ⟨rfl, rfl, Nat.le_of_ble_eq_true rfl, Nat.le_of_ble_eq_true rfl⟩ (Nat.le_of_ble_eq_true rfl) rfl ?_
      rw [show cg_pc 2 = 1 by decide]
      refine cr_iload_n (pc := 59) C dX4_syncsForRead_59 rfl ?_
      refine cr_dS (pc := 60) C (sm_bits (by decide)) rfl gX4_syncsForRead_X4_bits rfl dX4_syncsForRead_60 hsX4_bits rfl ⟨rfl, rfl, Nat.le_of_ble_eq_true rfl, Nat.le_of_ble_eq_true rfl⟩ (Nat.le_of_ble_eq_true rfl) rfl ?_
      rw [show cg_pc 0 = 0 by decide]
      refine cr_icmp_ge_t (pc := 63) (tgt := 70) C dX4_syncsForRead_63 (by decide) (by decide) ?_
      refine cr_iconst (pc := 70) (v := nI 0) C dX4_syncsForRead_70 (by decide) ?_
      refine cr_istore6 (pc := 71) C dX4_syncsForRead_71 (by decide) rfl ?_
      refine cr_iload (pc := 73) C dX4_syncsForRead_73 rfl ?_
      refine cr_if_eq_f (pc := 75) (tgt := 102) C dX4_syncsForRead_75 (by decide) (by decide) ?_
      refine cr_iload (pc := 78) C dX4_syncsForRead_78 rfl ?_
      refine cr_if_eq_t (pc := 80) (tgt := 102) C dX4_syncsForRead_80 (by decide) (by decide) ?_
      refine cr_iload_n (pc := 102) C dX4_syncsForRead_102 rfl ?_
      refine cr_istore_n3 (pc := 103) C dX4_syncsForRead_103 (by decide) rfl ?_
      refine cr_iinc4 (pc := 104) (v := nI 3) C dX4_syncsForRead_104 (by decide) (by decide) rfl ?_
      refine cr_goto (pc := 107) (tgt := 26) C dX4_syncsForRead_107 (by decide) ?_
      refine cr_iload (pc := 26) C dX4_syncsForRead_26 rfl ?_
      refine cr_bipush (pc := 28) (v := nI 8) C dX4_syncsForRead_28 (by decide) ?_
      refine cr_icmp_ge_f (pc := 30) (tgt := 110) C dX4_syncsForRead_30 (by decide) (by decide) ?_
      refine cr_iload (pc := 33) C dX4_syncsForRead_33 rfl ?_
      refine cr_iload_n (pc := 35) C dX4_syncsForRead_35 rfl ?_
      refine cr_ishr (pc := 36) C dX4_syncsForRead_36 ?_
      refine cr_iconst (pc := 37) (v := nI 1) C dX4_syncsForRead_37 (by decide) ?_
      refine cr_iand (pc := 38) C dX4_syncsForRead_38 ?_
      refine cr_if_ne_f (pc := 39) (tgt := 46) C dX4_syncsForRead_39 (by decide) (by decide) ?_
      refine cr_iconst (pc := 42) (v := nI 1) C dX4_syncsForRead_42 (by decide) ?_
      refine cr_goto (pc := 43) (tgt := 47) C dX4_syncsForRead_43 (by decide) ?_
      refine cr_istore5 (pc := 47) C dX4_syncsForRead_47 (by decide) rfl ?_
      refine cr_iload_n (pc := 49) C dX4_syncsForRead_49 rfl ?_
      refine cr_iconst (pc := 50) (v := (-1)) C dX4_syncsForRead_50 (by decide) ?_
      refine cr_icmp_eq_f (pc := 51) (tgt := 66) C dX4_syncsForRead_51 (by decide) (by decide) ?_
      refine cr_iload (pc := 54) C dX4_syncsForRead_54 rfl ?_
      refine cr_dS (pc := 56) C (sm_bits (by decide)) rfl gX4_syncsForRead_X4_bits rfl dX4_syncsForRead_56 hsX4_bits rfl ⟨rfl, rfl, Nat.le_of_ble_eq_true rfl, Nat.le_of_ble_eq_true rfl⟩ (Nat.le_of_ble_eq_true rfl) rfl ?_
      rw [show cg_pc 3 = 2 by decide]
      refine cr_iload_n (pc := 59) C dX4_syncsForRead_59 rfl ?_
      refine cr_dS (pc := 60) C (sm_bits (by decide)) rfl gX4_syncsForRead_X4_bits rfl dX4_syncsForRead_60 hsX4_bits rfl ⟨rfl, rfl, Nat.le_of_ble_eq_true rfl, Nat.le_of_ble_eq_true rfl⟩ (Nat.le_of_ble_eq_true rfl) rfl ?_
      rw [show cg_pc 0 = 0 by decide]
      refine cr_icmp_ge_t (pc := 63) (tgt := 70) C dX4_syncsForRead_63 (by decide) (by decide) ?_
      refine cr_iconst (pc := 70) (v := nI 0) C dX4_syncsForRead_70 (by decide) ?_
      refine cr_istore6 (pc := 71) C dX4_syncsForRead_71 (by decide) rfl ?_
      refine cr_iload (pc := 73) C dX4_syncsForRead_73 rfl ?_
      refine cr_if_eq_f (pc := 75) (tgt := 102) C dX4_syncsForRead_75 (by decide) (by decide) ?_
      refine cr_iload (pc := 78) C dX4_syncsForRead_78 rfl ?_
      refine cr_if_eq_t (pc := 80) (tgt := 102) C dX4_syncsForRead_80 (by decide) (by decide) ?_
      refine cr_iload_n (pc := 102) C dX4_syncsForRead_102 rfl ?_
      refine cr_istore_n3 (pc := 103) C dX4_syncsForRead_103 (by decide) rfl ?_
      refine cr_iinc4 (pc := 104) (v := nI 4) C dX4_syncsForRead_104 (by decide) (by decide) rfl ?_
      refine cr_goto (pc := 107) (tgt := 26) C dX4_syncsForRead_107 (by decide) ?_
      refine cr_iload (pc := 26) C dX4_syncsForRead_26 rfl ?_
      refine cr_bipush (pc := 28) (v := nI 8) C dX4_syncsForRead_28 (by decide) ?_
      refine cr_icmp_ge_f (pc := 30) (tgt := 110) C dX4_syncsForRead_30 (by decide) (by decide) ?_
      refine cr_iload (pc := 33) C dX4_syncsForRead_33 rfl ?_
      refine cr_iload_n (pc := 35) C dX4_syncsForRead_35 rfl ?_
      refine cr_ishr (pc := 36) C dX4_syncsForRead_36 ?_
      refine cr_iconst (pc := 37) (v := nI 1) C dX4_syncsForRead_37 (by decide) ?_
      refine cr_iand (pc := 38) C dX4_syncsForRead_38 ?_
      refine cr_if_ne_t (pc := 39) (tgt := 46) C dX4_syncsForRead_39 (by decide) (by decide) ?_
      refine cr_iconst (pc := 46) (v := nI 0) C dX4_syncsForRead_46 (by decide) ?_
      refine cr_istore5 (pc := 47) C dX4_syncsForRead_47 (by decide) rfl ?_
      refine cr_iload_n (pc := 49) C dX4_syncsForRead_49 rfl ?_
      refine cr_iconst (pc := 50) (v := (-1)) C dX4_syncsForRead_50 (by decide) ?_
      refine cr_icmp_eq_f (pc := 51) (tgt := 66) C dX4_syncsForRead_51 (by decide) (by decide) ?_
      refine cr_iload (pc := 54) C dX4_syncsForRead_54 rfl ?_
      refine cr_dS (pc := 56) C (sm_bits (by decide)) rfl gX4_syncsForRead_X4_bits rfl dX4_syncsForRead_56 hsX4_bits rfl ⟨rfl, rfl, Nat.le_of_ble_eq_true rfl, Nat.le_of_ble_eq_true rfl⟩ (Nat.le_of_ble_eq_true rfl) rfl ?_
      rw [show cg_pc 4 = 1 by decide]
      refine cr_iload_n (pc := 59) C dX4_syncsForRead_59 rfl ?_
      refine cr_dS (pc := 60) C (sm_bits (by decide)) rfl gX4_syncsForRead_X4_bits rfl dX4_syncsForRead_60 hsX4_bits rfl ⟨rfl, rfl, Nat.le_of_ble_eq_true rfl, Nat.le_of_ble_eq_true rfl⟩ (Nat.le_of_ble_eq_true rfl) rfl ?_
      rw [show cg_pc 0 = 0 by decide]
      refine cr_icmp_ge_t (pc := 63) (tgt := 70) C dX4_syncsForRead_63 (by decide) (by decide) ?_
      refine cr_iconst (pc := 70) (v := nI 0) C dX4_syncsForRead_70 (by decide) ?_
      refine cr_istore6 (pc := 71) C dX4_syncsForRead_71 (by decide) rfl ?_
      refine cr_iload (pc := 73) C dX4_syncsForRead_73 rfl ?_
      refine cr_if_eq_t (pc := 75) (tgt := 102) C dX4_syncsForRead_75 (by decide) (by decide) ?_
      refine cr_iload_n (pc := 102) C dX4_syncsForRead_102 rfl ?_
      refine cr_istore_n3 (pc := 103) C dX4_syncsForRead_103 (by decide) rfl ?_
      refine cr_iinc4 (pc := 104) (v := nI 5) C dX4_syncsForRead_104 (by decide) (by decide) rfl ?_
      refine cr_goto (pc := 107) (tgt := 26) C dX4_syncsForRead_107 (by decide) ?_
      refine cr_iload (pc := 26) C dX4_syncsForRead_26 rfl ?_
      refine cr_bipush (pc := 28) (v := nI 8) C dX4_syncsForRead_28 (by decide) ?_
      refine cr_icmp_ge_f (pc := 30) (tgt := 110) C dX4_syncsForRead_30 (by decide) (by decide) ?_
      refine cr_iload (pc := 33) C dX4_syncsForRead_33 rfl ?_
      refine cr_iload_n (pc := 35) C dX4_syncsForRead_35 rfl ?_
      refine cr_ishr (pc := 36) C dX4_syncsForRead_36 ?_
      refine cr_iconst (pc := 37) (v := nI 1) C dX4_syncsForRead_37 (by decide) ?_
      refine cr_iand (pc := 38) C dX4_syncsForRead_38 ?_
      refine cr_if_ne_t (pc := 39) (tgt := 46) C dX4_syncsForRead_39 (by decide) (by decide) ?_
      refine cr_iconst (pc := 46) (v := nI 0) C dX4_syncsForRead_46 (by decide) ?_
      refine cr_istore5 (pc := 47) C dX4_syncsForRead_47 (by decide) rfl ?_
      refine cr_iload_n (pc := 49) C dX4_syncsForRead_49 rfl ?_
      refine cr_iconst (pc := 50) (v := (-1)) C dX4_syncsForRead_50 (by decide) ?_
      refine cr_icmp_eq_f (pc := 51) (tgt := 66) C dX4_syncsForRead_51 (by decide) (by decide) ?_
      refine cr_iload (pc := 54) C dX4_syncsForRead_54 rfl ?_
      refine cr_dS (pc := 56) C (sm_bits (by decide)) rfl gX4_syncsForRead_X4_bits rfl dX4_syncsForRead_56 hsX4_bits rfl ⟨rfl, rfl, Nat.le_of_ble_eq_true rfl, Nat.le_of_ble_eq_true rfl⟩ (Nat.le_of_ble_eq_true rfl) rfl ?_
      rw [show cg_pc 5 = 2 by decide]
      refine cr_iload_n (pc := 59) C dX4_syncsForRead_59 rfl ?_
      refine cr_dS (pc := 60) C (sm_bits (by decide)) rfl gX4_syncsForRead_X4_bits rfl dX4_syncsForRead_60 hsX4_bits rfl ⟨rfl, rfl, Nat.le_of_ble_eq_true rfl, Nat.le_of_ble_eq_true rfl⟩ (Nat.le_of_ble_eq_true rfl) rfl ?_
      rw [show cg_pc 0 = 0 by decide]
      refine cr_icmp_ge_t (pc := 63) (tgt := 70) C dX4_syncsForRead_63 (by decide) (by decide) ?_
      refine cr_iconst (pc := 70) (v := nI 0) C dX4_syncsForRead_70 (by decide) ?_
      refine cr_istore6 (pc := 71) C dX4_syncsForRead_71 (by decide) rfl ?_
      refine cr_iload (pc := 73) C dX4_syncsForRead_73 rfl ?_
      refine cr_if_eq_t (pc := 75) (tgt := 102) C dX4_syncsForRead_75 (by decide) (by decide) ?_
      refine cr_iload_n (pc := 102) C dX4_syncsForRead_102 rfl ?_
      refine cr_istore_n3 (pc := 103) C dX4_syncsForRead_103 (by decide) rfl ?_
      refine cr_iinc4 (pc := 104) (v := nI 6) C dX4_syncsForRead_104 (by decide) (by decide) rfl ?_
      refine cr_goto (pc := 107) (tgt := 26) C dX4_syncsForRead_107 (by decide) ?_
      refine cr_iload (pc := 26) C dX4_syncsForRead_26 rfl ?_
      refine cr_bipush (pc := 28) (v := nI 8) C dX4_syncsForRead_28 (by decide) ?_
      refine cr_icmp_ge_f (pc := 30) (tgt := 110) C dX4_syncsForRead_30 (by decide) (by decide) ?_
      refine cr_iload (pc := 33) C dX4_syncsForRead_33 rfl ?_
      refine cr_iload_n (pc := 35) C dX4_syncsForRead_35 rfl ?_
      refine cr_ishr (pc := 36) C dX4_syncsForRead_36 ?_
      refine cr_iconst (pc := 37) (v := nI 1) C dX4_syncsForRead_37 (by decide) ?_
      refine cr_iand (pc := 38) C dX4_syncsForRead_38 ?_
      refine cr_if_ne_t (pc := 39) (tgt := 46) C dX4_syncsForRead_39 (by decide) (by decide) ?_
      refine cr_iconst (pc := 46) (v := nI 0) C dX4_syncsForRead_46 (by decide) ?_
      refine cr_istore5 (pc := 47) C dX4_syncsForRead_47 (by decide) rfl ?_
      refine cr_iload_n (pc := 49) C dX4_syncsForRead_49 rfl ?_
      refine cr_iconst (pc := 50) (v := (-1)) C dX4_syncsForRead_50 (by decide) ?_
      refine cr_icmp_eq_f (pc := 51) (tgt := 66) C dX4_syncsForRead_51 (by decide) (by decide) ?_
      refine cr_iload (pc := 54) C dX4_syncsForRead_54 rfl ?_
      refine cr_dS (pc := 56) C (sm_bits (by decide)) rfl gX4_syncsForRead_X4_bits rfl dX4_syncsForRead_56 hsX4_bits rfl ⟨rfl, rfl, Nat.le_of_ble_eq_true rfl, Nat.le_of_ble_eq_true rfl⟩ (Nat.le_of_ble_eq_true rfl) rfl ?_
      rw [show cg_pc 6 = 2 by decide]
      refine cr_iload_n (pc := 59) C dX4_syncsForRead_59 rfl ?_
      refine cr_dS (pc := 60) C (sm_bits (by decide)) rfl gX4_syncsForRead_X4_bits rfl dX4_syncsForRead_60 hsX4_bits rfl ⟨rfl, rfl, Nat.le_of_ble_eq_true rfl, Nat.le_of_ble_eq_true rfl⟩ (Nat.le_of_ble_eq_true rfl) rfl ?_
      rw [show cg_pc 0 = 0 by decide]
      refine cr_icmp_ge_t (pc := 63) (tgt := 70) C dX4_syncsForRead_63 (by decide) (by decide) ?_
      refine cr_iconst (pc := 70) (v := nI 0) C dX4_syncsForRead_70 (by decide) ?_
      refine cr_istore6 (pc := 71) C dX4_syncsForRead_71 (by decide) rfl ?_
      refine cr_iload (pc := 73) C dX4_syncsForRead_73 rfl ?_
      refine cr_if_eq_t (pc := 75) (tgt := 102) C dX4_syncsForRead_75 (by decide) (by decide) ?_
      refine cr_iload_n (pc := 102) C dX4_syncsForRead_102 rfl ?_
      refine cr_istore_n3 (pc := 103) C dX4_syncsForRead_103 (by decide) rfl ?_
      refine cr_iinc4 (pc := 104) (v := nI 7) C dX4_syncsForRead_104 (by decide) (by decide) rfl ?_
      refine cr_goto (pc := 107) (tgt := 26) C dX4_syncsForRead_107 (by decide) ?_
      refine cr_iload (pc := 26) C dX4_syncsForRead_26 rfl ?_
      refine cr_bipush (pc := 28) (v := nI 8) C dX4_syncsForRead_28 (by decide) ?_
      refine cr_icmp_ge_f (pc := 30) (tgt := 110) C dX4_syncsForRead_30 (by decide) (by decide) ?_
      refine cr_iload (pc := 33) C dX4_syncsForRead_33 rfl ?_
      refine cr_iload_n (pc := 35) C dX4_syncsForRead_35 rfl ?_
      refine cr_ishr (pc := 36) C dX4_syncsForRead_36 ?_
      refine cr_iconst (pc := 37) (v := nI 1) C dX4_syncsForRead_37 (by decide) ?_
      refine cr_iand (pc := 38) C dX4_syncsForRead_38 ?_
      refine cr_if_ne_t (pc := 39) (tgt := 46) C dX4_syncsForRead_39 (by decide) (by decide) ?_
      refine cr_iconst (pc := 46) (v := nI 0) C dX4_syncsForRead_46 (by decide) ?_
      refine cr_istore5 (pc := 47) C dX4_syncsForRead_47 (by decide) rfl ?_
      refine cr_iload_n (pc := 49) C dX4_syncsForRead_49 rfl ?_
      refine cr_iconst (pc := 50) (v := (-1)) C dX4_syncsForRead_50 (by decide) ?_
      refine cr_icmp_eq_f (pc := 51) (tgt := 66) C dX4_syncsForRead_51 (by decide) (by decide) ?_
      refine cr_iload (pc := 54) C dX4_syncsForRead_54 rfl ?_
      refine cr_dS (pc := 56) C (sm_bits (by decide)) rfl gX4_syncsForRead_X4_bits rfl dX4_syncsForRead_56 hsX4_bits rfl ⟨rfl, rfl, Nat.le_of_ble_eq_true rfl, Nat.le_of_ble_eq_true rfl⟩ (Nat.le_of_ble_eq_true rfl) rfl ?_
      rw [show cg_pc 7 = 3 by decide]
      refine cr_iload_n (pc := 59) C dX4_syncsForRead_59 rfl ?_
      refine cr_dS (pc := 60) C (sm_bits (by decide)) rfl gX4_syncsForRead_X4_bits rfl dX4_syncsForRead_60 hsX4_bits rfl ⟨rfl, rfl, Nat.le_of_ble_eq_true rfl, Nat.le_of_ble_eq_true rfl⟩ (Nat.le_of_ble_eq_true rfl) rfl ?_
      rw [show cg_pc 0 = 0 by decide]
      refine cr_icmp_ge_t (pc := 63) (tgt := 70) C dX4_syncsForRead_63 (by decide) (by decide) ?_
      refine cr_iconst (pc := 70) (v := nI 0) C dX4_syncsForRead_70 (by decide) ?_
      refine cr_istore6 (pc := 71) C dX4_syncsForRead_71 (by decide) rfl ?_
      refine cr_iload (pc := 73) C dX4_syncsForRead_73 rfl ?_
      refine cr_if_eq_t (pc := 75) (tgt := 102) C dX4_syncsForRead_75 (by decide) (by decide) ?_
      refine cr_iload_n (pc := 102) C dX4_syncsForRead_102 rfl ?_
      refine cr_istore_n3 (pc := 103) C dX4_syncsForRead_103 (by decide) rfl ?_
      refine cr_iinc4 (pc := 104) (v := nI 8) C dX4_syncsForRead_104 (by decide) (by decide) rfl ?_
      refine cr_goto (pc := 107) (tgt := 26) C dX4_syncsForRead_107 (by decide) ?_
      refine cr_iload (pc := 26) C dX4_syncsForRead_26 rfl ?_
      refine cr_bipush (pc := 28) (v := nI 8) C dX4_syncsForRead_28 (by decide) ?_
      refine cr_icmp_ge_t (pc := 30) (tgt := 110) C dX4_syncsForRead_30 (by decide) (by decide) ?_
      refine cr_iload_n (pc := 110) C dX4_syncsForRead_110 rfl ?_
      refine cr_ireturn (pc := 111) C X dX4_syncsForRead_111 ?_
      exact ⟨by unfold cg_sf cg_s4; simp [*], cg_sb_id M 20⟩
set_option maxRecDepth 100000 in
set_option maxHeartbeats 4000000 in
theorem sm_syncsForRead0 {M : cg_M} {x y : Int32} (h : ¬ (cg_in x 4 ∧ cg_in y 3)) : cg_D yX4_syncsForRead wsX4_syncsForRead rmX4_syncsForRead [.inr (.inr (4, 0, 0, 0)), .inl (x), .inl (y)] M (some (.inl (-2))) (cg_erm M 0) := by
  rcases Classical.em (cg_in x 4) with ⟨a, h0, rfl⟩ | hx
  · refine cg_S_of (cc := cX4_syncsForRead) (maxL := 7) (ret := (some .int)) (ls0 := [some (.inr (.inr (4, 0, 0, 0))), some (.inl (nI a)), some (.inl (y)), none, none, none, none]) RX4 rfl (by decide) rfl rfl (Nat.le_of_ble_eq_true rfl) (fun E C X => ?_)
    refine cr_iload_n (pc := 0) C dX4_syncsForRead_0 rfl ?_
    refine cr_dS (pc := 1) C (sm_isClient1 h0) rfl gX4_syncsForRead_X4_isClient rfl dX4_syncsForRead_1 hsX4_isClient rfl ⟨rfl, rfl, Nat.le_of_ble_eq_true rfl, Nat.le_of_ble_eq_true rfl⟩ (Nat.le_of_ble_eq_true rfl) rfl ?_
    refine cr_if_eq_f (pc := 4) (tgt := 14) C dX4_syncsForRead_4 (by decide) (by decide) ?_
    refine cr_iload_n (pc := 7) C dX4_syncsForRead_7 rfl ?_
    refine cr_dS (pc := 8) C (sm_isReplica0 (fun q => h ⟨⟨_, h0, rfl⟩, q⟩)) rfl gX4_syncsForRead_X4_isReplica rfl dX4_syncsForRead_8 hsX4_isReplica rfl ⟨rfl, rfl, Nat.le_of_ble_eq_true rfl, Nat.le_of_ble_eq_true rfl⟩ (Nat.le_of_ble_eq_true rfl) rfl ?_
    refine cr_if_ne_f (pc := 11) (tgt := 21) C dX4_syncsForRead_11 (by decide) (by decide) ?_
    refine cr_aload_n (pc := 14) C dX4_syncsForRead_14 rfl ?_
    refine cr_bipush (pc := 15) (v := (-2)) C dX4_syncsForRead_15 (by decide) ?_
    refine cr_dV (pc := 17) C (sm_error (e := 0) (by decide) (by decide)) rfl gX4_syncsForRead_X4_error rfl dX4_syncsForRead_17 (by first | rfl | assumption | (simp [cg_ok]; omega)) rfl hvX4_error rfl ⟨rfl, rfl, Nat.le_of_ble_eq_true rfl, Nat.le_of_ble_eq_true rfl⟩ (Nat.le_of_ble_eq_true rfl) rfl ?_
    refine cr_ireturn (pc := 20) C X dX4_syncsForRead_20 ?_
    exact ⟨rfl, rfl⟩
  · refine cg_S_of (cc := cX4_syncsForRead) (maxL := 7) (ret := (some .int)) (ls0 := [some (.inr (.inr (4, 0, 0, 0))), some (.inl (x)), some (.inl (y)), none, none, none, none]) RX4 rfl (by decide) rfl rfl (Nat.le_of_ble_eq_true rfl) (fun E C X => ?_)
    refine cr_iload_n (pc := 0) C dX4_syncsForRead_0 rfl ?_
    refine cr_dS (pc := 1) C (sm_isClient0 hx) rfl gX4_syncsForRead_X4_isClient rfl dX4_syncsForRead_1 hsX4_isClient rfl ⟨rfl, rfl, Nat.le_of_ble_eq_true rfl, Nat.le_of_ble_eq_true rfl⟩ (Nat.le_of_ble_eq_true rfl) rfl ?_
    refine cr_if_eq_t (pc := 4) (tgt := 14) C dX4_syncsForRead_4 (by decide) (by decide) ?_
    refine cr_aload_n (pc := 14) C dX4_syncsForRead_14 rfl ?_
    refine cr_bipush (pc := 15) (v := (-2)) C dX4_syncsForRead_15 (by decide) ?_
    refine cr_dV (pc := 17) C (sm_error (e := 0) (by decide) (by decide)) rfl gX4_syncsForRead_X4_error rfl dX4_syncsForRead_17 (by first | rfl | assumption | (simp [cg_ok]; omega)) rfl hvX4_error rfl ⟨rfl, rfl, Nat.le_of_ble_eq_true rfl, Nat.le_of_ble_eq_true rfl⟩ (Nat.le_of_ble_eq_true rfl) rfl ?_
    refine cr_ireturn (pc := 20) C X dX4_syncsForRead_20 ?_
    exact ⟨rfl, rfl⟩
set_option maxRecDepth 100000 in
set_option maxHeartbeats 4000000 in
theorem sm_peek1 {M : cg_M} {r k : Nat} {n : Nat} (hr : r < 3) (hk : k < 4) (hI : cg_Iw (M 20) n) (hv : ¬ cg_vl (M 20) r k n = nI 100) : cg_D yX4_peek wsX4_peek rmX4_peek [.inr (.inr (4, 0, 0, 0)), .inl (nI r), .inl (nI k)] M (some (.inl (cg_vl (M 20) r k n))) (M) := by
  refine cg_S_of (cc := cX4_peek) (maxL := 4) (ret := (some .int)) (ls0 := [some (.inr (.inr (4, 0, 0, 0))), some (.inl (nI r)), some (.inl (nI k)), none]) RX4 rfl (by decide) rfl rfl (Nat.le_of_ble_eq_true rfl) (fun E C X => ?_)
  refine cr_iload_n (pc := 0) C dX4_peek_0 rfl ?_
  refine cr_dS (pc := 1) C (sm_isReplica1 hr) rfl gX4_peek_X4_isReplica rfl dX4_peek_1 hsX4_isReplica rfl ⟨rfl, rfl, Nat.le_of_ble_eq_true rfl, Nat.le_of_ble_eq_true rfl⟩ (Nat.le_of_ble_eq_true rfl) rfl ?_
  refine cr_if_eq_f (pc := 4) (tgt := 14) C dX4_peek_4 (by decide) (by decide) ?_
  refine cr_iload_n (pc := 7) C dX4_peek_7 rfl ?_
  refine cr_dS (pc := 8) C (sm_isKey1 hk) rfl gX4_peek_X4_isKey rfl dX4_peek_8 hsX4_isKey rfl ⟨rfl, rfl, Nat.le_of_ble_eq_true rfl, Nat.le_of_ble_eq_true rfl⟩ (Nat.le_of_ble_eq_true rfl) rfl ?_
  refine cr_if_ne_t (pc := 11) (tgt := 21) C dX4_peek_11 (by decide) (by decide) ?_
  refine cr_mem (cg_sb_id M 20).symm ?_
  refine cr_aload_n (pc := 21) C dX4_peek_21 rfl ?_
  refine cr_iload_n (pc := 22) C dX4_peek_22 rfl ?_
  refine cr_iload_n (pc := 23) C dX4_peek_23 rfl ?_
  refine cr_dV (pc := 24) C (sm_valueAt hr hI) rfl gX4_peek_X4_valueAt rfl dX4_peek_24 (by first | rfl | assumption | (simp [cg_ok]; omega)) rfl hvX4_valueAt rfl ⟨rfl, rfl, Nat.le_of_ble_eq_true rfl, Nat.le_of_ble_eq_true rfl⟩ (Nat.le_of_ble_eq_true rfl) rfl ?_
  refine cr_istore_n3 (pc := 27) C dX4_peek_27 (by decide) rfl ?_
  refine cr_iload_n (pc := 28) C dX4_peek_28 rfl ?_
  refine cr_bipush (pc := 29) (v := nI 100) C dX4_peek_29 (by decide) ?_
  refine cr_icmp_ne_t (pc := 31) (tgt := 43) C dX4_peek_31 (by decide) hv ?_
  refine cr_iload_n (pc := 43) C dX4_peek_43 rfl ?_
  refine cr_ireturn (pc := 44) C X dX4_peek_44 ?_
  exact ⟨rfl, cg_sb_id M 20⟩
set_option maxRecDepth 100000 in
set_option maxHeartbeats 4000000 in
theorem sm_peek5 {M : cg_M} {r k n : Nat} (hr : r < 3) (hk : k < 4) (hI : cg_Iw (M 20) n) (hv : cg_vl (M 20) r k n = nI 100) : cg_D yX4_peek wsX4_peek rmX4_peek [.inr (.inr (4, 0, 0, 0)), .inl (nI r), .inl (nI k)] M (some (.inl (-5))) (cg_erm M 3) := by
  refine cg_S_of (cc := cX4_peek) (maxL := 4) (ret := (some .int)) (ls0 := [some (.inr (.inr (4, 0, 0, 0))), some (.inl (nI r)), some (.inl (nI k)), none]) RX4 rfl (by decide) rfl rfl (Nat.le_of_ble_eq_true rfl) (fun E C X => ?_)
  refine cr_iload_n (pc := 0) C dX4_peek_0 rfl ?_
  refine cr_dS (pc := 1) C (sm_isReplica1 hr) rfl gX4_peek_X4_isReplica rfl dX4_peek_1 hsX4_isReplica rfl ⟨rfl, rfl, Nat.le_of_ble_eq_true rfl, Nat.le_of_ble_eq_true rfl⟩ (Nat.le_of_ble_eq_true rfl) rfl ?_
  refine cr_if_eq_f (pc := 4) (tgt := 14) C dX4_peek_4 (by decide) (by decide) ?_
  refine cr_iload_n (pc := 7) C dX4_peek_7 rfl ?_
  refine cr_dS (pc := 8) C (sm_isKey1 hk) rfl gX4_peek_X4_isKey rfl dX4_peek_8 hsX4_isKey rfl ⟨rfl, rfl, Nat.le_of_ble_eq_true rfl, Nat.le_of_ble_eq_true rfl⟩ (Nat.le_of_ble_eq_true rfl) rfl ?_
  refine cr_if_ne_t (pc := 11) (tgt := 21) C dX4_peek_11 (by decide) (by decide) ?_
  refine cr_mem (cg_sb_id M 20).symm ?_
  refine cr_aload_n (pc := 21) C dX4_peek_21 rfl ?_
  refine cr_iload_n (pc := 22) C dX4_peek_22 rfl ?_
  refine cr_iload_n (pc := 23) C dX4_peek_23 rfl ?_
  refine cr_dV (pc := 24) C (sm_valueAt hr hI) rfl gX4_peek_X4_valueAt rfl dX4_peek_24 (by first | rfl | assumption | (simp [cg_ok]; omega)) rfl hvX4_valueAt rfl ⟨rfl, rfl, Nat.le_of_ble_eq_true rfl, Nat.le_of_ble_eq_true rfl⟩ (Nat.le_of_ble_eq_true rfl) rfl ?_
  refine cr_istore_n3 (pc := 27) C dX4_peek_27 (by decide) rfl ?_
  refine cr_iload_n (pc := 28) C dX4_peek_28 rfl ?_
  refine cr_bipush (pc := 29) (v := nI 100) C dX4_peek_29 (by decide) ?_
  refine cr_icmp_ne_f (pc := 31) (tgt := 43) C dX4_peek_31 (by decide) hv ?_
  refine cr_mem (cg_sb_id M 20) ?_
  refine cr_aload_n (pc := 34) C dX4_peek_34 rfl ?_
  refine cr_bipush (pc := 35) (v := (-5)) C dX4_peek_35 (by decide) ?_
  refine cr_dV (pc := 37) C (sm_error (e := 3) (by decide) (by decide)) rfl gX4_peek_X4_error rfl dX4_peek_37 (by first | rfl | assumption | (simp [cg_ok]; omega)) rfl hvX4_error rfl ⟨rfl, rfl, Nat.le_of_ble_eq_true rfl, Nat.le_of_ble_eq_true rfl⟩ (Nat.le_of_ble_eq_true rfl) rfl ?_
  refine cr_goto (pc := 40) (tgt := 44) C dX4_peek_40 (by decide) ?_
  refine cr_ireturn (pc := 44) C X dX4_peek_44 ?_
  exact ⟨rfl, rfl⟩
set_option maxRecDepth 100000 in
set_option maxHeartbeats 4000000 in
theorem sm_peek0 {M : cg_M} {x y : Int32} (h : ¬ (cg_in x 3 ∧ cg_in y 4)) : cg_D yX4_peek wsX4_peek rmX4_peek [.inr (.inr (4, 0, 0, 0)), .inl (x), .inl (y)] M (some (.inl (-2))) (cg_erm M 0) := by
  rcases Classical.em (cg_in x 3) with ⟨a, h0, rfl⟩ | hx
  · refine cg_S_of (cc := cX4_peek) (maxL := 4) (ret := (some .int)) (ls0 := [some (.inr (.inr (4, 0, 0, 0))), some (.inl (nI a)), some (.inl (y)), none]) RX4 rfl (by decide) rfl rfl (Nat.le_of_ble_eq_true rfl) (fun E C X => ?_)
    refine cr_iload_n (pc := 0) C dX4_peek_0 rfl ?_
    refine cr_dS (pc := 1) C (sm_isReplica1 h0) rfl gX4_peek_X4_isReplica rfl dX4_peek_1 hsX4_isReplica rfl ⟨rfl, rfl, Nat.le_of_ble_eq_true rfl, Nat.le_of_ble_eq_true rfl⟩ (Nat.le_of_ble_eq_true rfl) rfl ?_
    refine cr_if_eq_f (pc := 4) (tgt := 14) C dX4_peek_4 (by decide) (by decide) ?_
    refine cr_iload_n (pc := 7) C dX4_peek_7 rfl ?_
    refine cr_dS (pc := 8) C (sm_isKey0 (fun q => h ⟨⟨_, h0, rfl⟩, q⟩)) rfl gX4_peek_X4_isKey rfl dX4_peek_8 hsX4_isKey rfl ⟨rfl, rfl, Nat.le_of_ble_eq_true rfl, Nat.le_of_ble_eq_true rfl⟩ (Nat.le_of_ble_eq_true rfl) rfl ?_
    refine cr_if_ne_f (pc := 11) (tgt := 21) C dX4_peek_11 (by decide) (by decide) ?_
    refine cr_aload_n (pc := 14) C dX4_peek_14 rfl ?_
    refine cr_bipush (pc := 15) (v := (-2)) C dX4_peek_15 (by decide) ?_
    refine cr_dV (pc := 17) C (sm_error (e := 0) (by decide) (by decide)) rfl gX4_peek_X4_error rfl dX4_peek_17 (by first | rfl | assumption | (simp [cg_ok]; omega)) rfl hvX4_error rfl ⟨rfl, rfl, Nat.le_of_ble_eq_true rfl, Nat.le_of_ble_eq_true rfl⟩ (Nat.le_of_ble_eq_true rfl) rfl ?_
    refine cr_ireturn (pc := 20) C X dX4_peek_20 ?_
    exact ⟨rfl, rfl⟩
  · refine cg_S_of (cc := cX4_peek) (maxL := 4) (ret := (some .int)) (ls0 := [some (.inr (.inr (4, 0, 0, 0))), some (.inl (x)), some (.inl (y)), none]) RX4 rfl (by decide) rfl rfl (Nat.le_of_ble_eq_true rfl) (fun E C X => ?_)
    refine cr_iload_n (pc := 0) C dX4_peek_0 rfl ?_
    refine cr_dS (pc := 1) C (sm_isReplica0 hx) rfl gX4_peek_X4_isReplica rfl dX4_peek_1 hsX4_isReplica rfl ⟨rfl, rfl, Nat.le_of_ble_eq_true rfl, Nat.le_of_ble_eq_true rfl⟩ (Nat.le_of_ble_eq_true rfl) rfl ?_
    refine cr_if_eq_t (pc := 4) (tgt := 14) C dX4_peek_4 (by decide) (by decide) ?_
    refine cr_aload_n (pc := 14) C dX4_peek_14 rfl ?_
    refine cr_bipush (pc := 15) (v := (-2)) C dX4_peek_15 (by decide) ?_
    refine cr_dV (pc := 17) C (sm_error (e := 0) (by decide) (by decide)) rfl gX4_peek_X4_error rfl dX4_peek_17 (by first | rfl | assumption | (simp [cg_ok]; omega)) rfl hvX4_error rfl ⟨rfl, rfl, Nat.le_of_ble_eq_true rfl, Nat.le_of_ble_eq_true rfl⟩ (Nat.le_of_ble_eq_true rfl) rfl ?_
    refine cr_ireturn (pc := 20) C X dX4_peek_20 ?_
    exact ⟨rfl, rfl⟩
set_option maxRecDepth 100000 in
set_option maxHeartbeats 4000000 in
theorem sm_compare1 {M : cg_M} {a b : Nat}  (ha : a < 3) (hb : b < 3) (hI : cg_I (M 20)) : cg_D yX4_compare wsX4_compare rmX4_compare [.inr (.inr (4, 0, 0, 0)), .inl (nI a), .inl (nI b)] M (some (.inl (cg_cmp (cg_cs (M 20) (2 ^ a) (3 * b)) (cg_cs (M 20) (2 ^ b) (3 * a))))) (M) := by
  cases h1 : cg_cs (M 20) (2 ^ a) (3 * b) <;> cases h2 : cg_cs (M 20) (2 ^ b) (3 * a)
  · refine cg_S_of (cc := cX4_compare) (maxL := 5) (ret := (some .int)) (ls0 := [some (.inr (.inr (4, 0, 0, 0))), some (.inl (nI a)), some (.inl (nI b)), none, none]) RX4 rfl (by decide) rfl rfl (Nat.le_of_ble_eq_true rfl) (fun E C X => ?_)
    refine cr_iload_n (pc := 0) C dX4_compare_0 rfl ?_
    refine cr_dS (pc := 1) C (sm_isReplica1 ha) rfl gX4_compare_X4_isReplica rfl dX4_compare_1 hsX4_isReplica rfl ⟨rfl, rfl, Nat.le_of_ble_eq_true rfl, Nat.le_of_ble_eq_true rfl⟩ (Nat.le_of_ble_eq_true rfl) rfl ?_
    refine cr_if_eq_f (pc := 4) (tgt := 14) C dX4_compare_4 (by decide) (by decide) ?_
    refine cr_iload_n (pc := 7) C dX4_compare_7 rfl ?_
    refine cr_dS (pc := 8) C (sm_isReplica1 hb) rfl gX4_compare_X4_isReplica rfl dX4_compare_8 hsX4_isReplica rfl ⟨rfl, rfl, Nat.le_of_ble_eq_true rfl, Nat.le_of_ble_eq_true rfl⟩ (Nat.le_of_ble_eq_true rfl) rfl ?_
    refine cr_if_ne_t (pc := 11) (tgt := 21) C dX4_compare_11 (by decide) (by decide) ?_
    refine cr_mem (cg_sb_id M 20).symm ?_
    refine cr_aload_n (pc := 21) C dX4_compare_21 rfl ?_
    refine cr_iconst (pc := 22) (v := nI 3) C dX4_compare_22 (by decide) ?_
    refine cr_iload_n (pc := 23) C dX4_compare_23 rfl ?_
    refine cr_imul_n (pc := 24) C dX4_compare_24 ?_
    refine cr_iconst (pc := 25) (v := nI 3) C dX4_compare_25 (by decide) ?_
    refine cr_iload_n (pc := 26) C dX4_compare_26 rfl ?_
    refine cr_imul_n (pc := 27) C dX4_compare_27 ?_
    refine cr_dV (pc := 28) C (sm_covers (by omega) (by omega)) rfl gX4_compare_X4_covers rfl dX4_compare_28 (by first | rfl | assumption | (simp [cg_ok]; omega)) rfl hvX4_covers rfl ⟨rfl, rfl, Nat.le_of_ble_eq_true rfl, Nat.le_of_ble_eq_true rfl⟩ (Nat.le_of_ble_eq_true rfl) rfl ?_
    rw [cg_cv_cs hI ha, h1]
    refine cr_istore_n3 (pc := 31) C dX4_compare_31 (by decide) rfl ?_
    refine cr_aload_n (pc := 32) C dX4_compare_32 rfl ?_
    refine cr_iconst (pc := 33) (v := nI 3) C dX4_compare_33 (by decide) ?_
    refine cr_iload_n (pc := 34) C dX4_compare_34 rfl ?_
    refine cr_imul_n (pc := 35) C dX4_compare_35 ?_
    refine cr_iconst (pc := 36) (v := nI 3) C dX4_compare_36 (by decide) ?_
    refine cr_iload_n (pc := 37) C dX4_compare_37 rfl ?_
    refine cr_imul_n (pc := 38) C dX4_compare_38 ?_
    refine cr_dV (pc := 39) C (sm_covers (by omega) (by omega)) rfl gX4_compare_X4_covers rfl dX4_compare_39 (by first | rfl | assumption | (simp [cg_ok]; omega)) rfl hvX4_covers rfl ⟨rfl, rfl, Nat.le_of_ble_eq_true rfl, Nat.le_of_ble_eq_true rfl⟩ (Nat.le_of_ble_eq_true rfl) rfl ?_
    rw [cg_cv_cs hI hb, h2]
    refine cr_istore4 (pc := 42) C dX4_compare_42 (by decide) rfl ?_
    refine cr_iload_n (pc := 44) C dX4_compare_44 rfl ?_
    refine cr_if_eq_t (pc := 45) (tgt := 57) C dX4_compare_45 (by decide) (by decide) ?_
    refine cr_iload_n (pc := 57) C dX4_compare_57 rfl ?_
    refine cr_if_eq_t (pc := 58) (tgt := 65) C dX4_compare_58 (by decide) (by decide) ?_
    refine cr_iload (pc := 65) C dX4_compare_65 rfl ?_
    refine cr_if_eq_t (pc := 67) (tgt := 74) C dX4_compare_67 (by decide) (by decide) ?_
    refine cr_iconst (pc := 74) (v := nI 3) C dX4_compare_74 (by decide) ?_
    refine cr_ireturn (pc := 75) C X dX4_compare_75 ?_
    exact ⟨rfl, cg_sb_id M 20⟩
  · refine cg_S_of (cc := cX4_compare) (maxL := 5) (ret := (some .int)) (ls0 := [some (.inr (.inr (4, 0, 0, 0))), some (.inl (nI a)), some (.inl (nI b)), none, none]) RX4 rfl (by decide) rfl rfl (Nat.le_of_ble_eq_true rfl) (fun E C X => ?_)
    refine cr_iload_n (pc := 0) C dX4_compare_0 rfl ?_
    refine cr_dS (pc := 1) C (sm_isReplica1 ha) rfl gX4_compare_X4_isReplica rfl dX4_compare_1 hsX4_isReplica rfl ⟨rfl, rfl, Nat.le_of_ble_eq_true rfl, Nat.le_of_ble_eq_true rfl⟩ (Nat.le_of_ble_eq_true rfl) rfl ?_
    refine cr_if_eq_f (pc := 4) (tgt := 14) C dX4_compare_4 (by decide) (by decide) ?_
    refine cr_iload_n (pc := 7) C dX4_compare_7 rfl ?_
    refine cr_dS (pc := 8) C (sm_isReplica1 hb) rfl gX4_compare_X4_isReplica rfl dX4_compare_8 hsX4_isReplica rfl ⟨rfl, rfl, Nat.le_of_ble_eq_true rfl, Nat.le_of_ble_eq_true rfl⟩ (Nat.le_of_ble_eq_true rfl) rfl ?_
    refine cr_if_ne_t (pc := 11) (tgt := 21) C dX4_compare_11 (by decide) (by decide) ?_
    refine cr_mem (cg_sb_id M 20).symm ?_
    refine cr_aload_n (pc := 21) C dX4_compare_21 rfl ?_
    refine cr_iconst (pc := 22) (v := nI 3) C dX4_compare_22 (by decide) ?_
    refine cr_iload_n (pc := 23) C dX4_compare_23 rfl ?_
    refine cr_imul_n (pc := 24) C dX4_compare_24 ?_
    refine cr_iconst (pc := 25) (v := nI 3) C dX4_compare_25 (by decide) ?_
    refine cr_iload_n (pc := 26) C dX4_compare_26 rfl ?_
    refine cr_imul_n (pc := 27) C dX4_compare_27 ?_
    refine cr_dV (pc := 28) C (sm_covers (by omega) (by omega)) rfl gX4_compare_X4_covers rfl dX4_compare_28 (by first | rfl | assumption | (simp [cg_ok]; omega)) rfl hvX4_covers rfl ⟨rfl, rfl, Nat.le_of_ble_eq_true rfl, Nat.le_of_ble_eq_true rfl⟩ (Nat.le_of_ble_eq_true rfl) rfl ?_
    rw [cg_cv_cs hI ha, h1]
    refine cr_istore_n3 (pc := 31) C dX4_compare_31 (by decide) rfl ?_
    refine cr_aload_n (pc := 32) C dX4_compare_32 rfl ?_
    refine cr_iconst (pc := 33) (v := nI 3) C dX4_compare_33 (by decide) ?_
    refine cr_iload_n (pc := 34) C dX4_compare_34 rfl ?_
    refine cr_imul_n (pc := 35) C dX4_compare_35 ?_
    refine cr_iconst (pc := 36) (v := nI 3) C dX4_compare_36 (by decide) ?_
    refine cr_iload_n (pc := 37) C dX4_compare_37 rfl ?_
    refine cr_imul_n (pc := 38) C dX4_compare_38 ?_
    refine cr_dV (pc := 39) C (sm_covers (by omega) (by omega)) rfl gX4_compare_X4_covers rfl dX4_compare_39 (by first | rfl | assumption | (simp [cg_ok]; omega)) rfl hvX4_covers rfl ⟨rfl, rfl, Nat.le_of_ble_eq_true rfl, Nat.le_of_ble_eq_true rfl⟩ (Nat.le_of_ble_eq_true rfl) rfl ?_
    rw [cg_cv_cs hI hb, h2]
    refine cr_istore4 (pc := 42) C dX4_compare_42 (by decide) rfl ?_
    refine cr_iload_n (pc := 44) C dX4_compare_44 rfl ?_
    refine cr_if_eq_t (pc := 45) (tgt := 57) C dX4_compare_45 (by decide) (by decide) ?_
    refine cr_iload_n (pc := 57) C dX4_compare_57 rfl ?_
    refine cr_if_eq_t (pc := 58) (tgt := 65) C dX4_compare_58 (by decide) (by decide) ?_
    refine cr_iload (pc := 65) C dX4_compare_65 rfl ?_
    refine cr_if_eq_f (pc := 67) (tgt := 74) C dX4_compare_67 (by decide) (by decide) ?_
    refine cr_iconst (pc := 70) (v := nI 2) C dX4_compare_70 (by decide) ?_
    refine cr_goto (pc := 71) (tgt := 75) C dX4_compare_71 (by decide) ?_
    refine cr_ireturn (pc := 75) C X dX4_compare_75 ?_
    exact ⟨rfl, cg_sb_id M 20⟩
  · refine cg_S_of (cc := cX4_compare) (maxL := 5) (ret := (some .int)) (ls0 := [some (.inr (.inr (4, 0, 0, 0))), some (.inl (nI a)), some (.inl (nI b)), none, none]) RX4 rfl (by decide) rfl rfl (Nat.le_of_ble_eq_true rfl) (fun E C X => ?_)
    refine cr_iload_n (pc := 0) C dX4_compare_0 rfl ?_
    refine cr_dS (pc := 1) C (sm_isReplica1 ha) rfl gX4_compare_X4_isReplica rfl dX4_compare_1 hsX4_isReplica rfl ⟨rfl, rfl, Nat.le_of_ble_eq_true rfl, Nat.le_of_ble_eq_true rfl⟩ (Nat.le_of_ble_eq_true rfl) rfl ?_
    refine cr_if_eq_f (pc := 4) (tgt := 14) C dX4_compare_4 (by decide) (by decide) ?_
    refine cr_iload_n (pc := 7) C dX4_compare_7 rfl ?_
    refine cr_dS (pc := 8) C (sm_isReplica1 hb) rfl gX4_compare_X4_isReplica rfl dX4_compare_8 hsX4_isReplica rfl ⟨rfl, rfl, Nat.le_of_ble_eq_true rfl, Nat.le_of_ble_eq_true rfl⟩ (Nat.le_of_ble_eq_true rfl) rfl ?_
    refine cr_if_ne_t (pc := 11) (tgt := 21) C dX4_compare_11 (by decide) (by decide) ?_
    refine cr_mem (cg_sb_id M 20).symm ?_
    refine cr_aload_n (pc := 21) C dX4_compare_21 rfl ?_
    refine cr_iconst (pc := 22) (v := nI 3) C dX4_compare_22 (by decide) ?_
    refine cr_iload_n (pc := 23) C dX4_compare_23 rfl ?_
    refine cr_imul_n (pc := 24) C dX4_compare_24 ?_
    refine cr_iconst (pc := 25) (v := nI 3) C dX4_compare_25 (by decide) ?_
    refine cr_iload_n (pc := 26) C dX4_compare_26 rfl ?_
    refine cr_imul_n (pc := 27) C dX4_compare_27 ?_
    refine cr_dV (pc := 28) C (sm_covers (by omega) (by omega)) rfl gX4_compare_X4_covers rfl dX4_compare_28 (by first | rfl | assumption | (simp [cg_ok]; omega)) rfl hvX4_covers rfl ⟨rfl, rfl, Nat.le_of_ble_eq_true rfl, Nat.le_of_ble_eq_true rfl⟩ (Nat.le_of_ble_eq_true rfl) rfl ?_
    rw [cg_cv_cs hI ha, h1]
    refine cr_istore_n3 (pc := 31) C dX4_compare_31 (by decide) rfl ?_
    refine cr_aload_n (pc := 32) C dX4_compare_32 rfl ?_
    refine cr_iconst (pc := 33) (v := nI 3) C dX4_compare_33 (by decide) ?_
    refine cr_iload_n (pc := 34) C dX4_compare_34 rfl ?_
    refine cr_imul_n (pc := 35) C dX4_compare_35 ?_
    refine cr_iconst (pc := 36) (v := nI 3) C dX4_compare_36 (by decide) ?_
    refine cr_iload_n (pc := 37) C dX4_compare_37 rfl ?_
    refine cr_imul_n (pc := 38) C dX4_compare_38 ?_
    refine cr_dV (pc := 39) C (sm_covers (by omega) (by omega)) rfl gX4_compare_X4_covers rfl dX4_compare_39 (by first | rfl | assumption | (simp [cg_ok]; omega)) rfl hvX4_covers rfl ⟨rfl, rfl, Nat.le_of_ble_eq_true rfl, Nat.le_of_ble_eq_true rfl⟩ (Nat.le_of_ble_eq_true rfl) rfl ?_
    rw [cg_cv_cs hI hb, h2]
    refine cr_istore4 (pc := 42) C dX4_compare_42 (by decide) rfl ?_
    refine cr_iload_n (pc := 44) C dX4_compare_44 rfl ?_
    refine cr_if_eq_f (pc := 45) (tgt := 57) C dX4_compare_45 (by decide) (by decide) ?_
    refine cr_iload (pc := 48) C dX4_compare_48 rfl ?_
    refine cr_if_eq_t (pc := 50) (tgt := 57) C dX4_compare_50 (by decide) (by decide) ?_
    refine cr_iload_n (pc := 57) C dX4_compare_57 rfl ?_
    refine cr_if_eq_f (pc := 58) (tgt := 65) C dX4_compare_58 (by decide) (by decide) ?_
    refine cr_iconst (pc := 61) (v := nI 1) C dX4_compare_61 (by decide) ?_
    refine cr_goto (pc := 62) (tgt := 75) C dX4_compare_62 (by decide) ?_
    refine cr_ireturn (pc := 75) C X dX4_compare_75 ?_
    exact ⟨rfl, cg_sb_id M 20⟩
  · refine cg_S_of (cc := cX4_compare) (maxL := 5) (ret := (some .int)) (ls0 := [some (.inr (.inr (4, 0, 0, 0))), some (.inl (nI a)), some (.inl (nI b)), none, none]) RX4 rfl (by decide) rfl rfl (Nat.le_of_ble_eq_true rfl) (fun E C X => ?_)
    refine cr_iload_n (pc := 0) C dX4_compare_0 rfl ?_
    refine cr_dS (pc := 1) C (sm_isReplica1 ha) rfl gX4_compare_X4_isReplica rfl dX4_compare_1 hsX4_isReplica rfl ⟨rfl, rfl, Nat.le_of_ble_eq_true rfl, Nat.le_of_ble_eq_true rfl⟩ (Nat.le_of_ble_eq_true rfl) rfl ?_
    refine cr_if_eq_f (pc := 4) (tgt := 14) C dX4_compare_4 (by decide) (by decide) ?_
    refine cr_iload_n (pc := 7) C dX4_compare_7 rfl ?_
    refine cr_dS (pc := 8) C (sm_isReplica1 hb) rfl gX4_compare_X4_isReplica rfl dX4_compare_8 hsX4_isReplica rfl ⟨rfl, rfl, Nat.le_of_ble_eq_true rfl, Nat.le_of_ble_eq_true rfl⟩ (Nat.le_of_ble_eq_true rfl) rfl ?_
    refine cr_if_ne_t (pc := 11) (tgt := 21) C dX4_compare_11 (by decide) (by decide) ?_
    refine cr_mem (cg_sb_id M 20).symm ?_
    refine cr_aload_n (pc := 21) C dX4_compare_21 rfl ?_
    refine cr_iconst (pc := 22) (v := nI 3) C dX4_compare_22 (by decide) ?_
    refine cr_iload_n (pc := 23) C dX4_compare_23 rfl ?_
    refine cr_imul_n (pc := 24) C dX4_compare_24 ?_
    refine cr_iconst (pc := 25) (v := nI 3) C dX4_compare_25 (by decide) ?_
    refine cr_iload_n (pc := 26) C dX4_compare_26 rfl ?_
    refine cr_imul_n (pc := 27) C dX4_compare_27 ?_
    refine cr_dV (pc := 28) C (sm_covers (by omega) (by omega)) rfl gX4_compare_X4_covers rfl dX4_compare_28 (by first | rfl | assumption | (simp [cg_ok]; omega)) rfl hvX4_covers rfl ⟨rfl, rfl, Nat.le_of_ble_eq_true rfl, Nat.le_of_ble_eq_true rfl⟩ (Nat.le_of_ble_eq_true rfl) rfl ?_
    rw [cg_cv_cs hI ha, h1]
    refine cr_istore_n3 (pc := 31) C dX4_compare_31 (by decide) rfl ?_
    refine cr_aload_n (pc := 32) C dX4_compare_32 rfl ?_
    refine cr_iconst (pc := 33) (v := nI 3) C dX4_compare_33 (by decide) ?_
    refine cr_iload_n (pc := 34) C dX4_compare_34 rfl ?_
    refine cr_imul_n (pc := 35) C dX4_compare_35 ?_
    refine cr_iconst (pc := 36) (v := nI 3) C dX4_compare_36 (by decide) ?_
    refine cr_iload_n (pc := 37) C dX4_compare_37 rfl ?_
    refine cr_imul_n (pc := 38) C dX4_compare_38 ?_
    refine cr_dV (pc := 39) C (sm_covers (by omega) (by omega)) rfl gX4_compare_X4_covers rfl dX4_compare_39 (by first | rfl | assumption | (simp [cg_ok]; omega)) rfl hvX4_covers rfl ⟨rfl, rfl, Nat.le_of_ble_eq_true rfl, Nat.le_of_ble_eq_true rfl⟩ (Nat.le_of_ble_eq_true rfl) rfl ?_
    rw [cg_cv_cs hI hb, h2]
    refine cr_istore4 (pc := 42) C dX4_compare_42 (by decide) rfl ?_
    refine cr_iload_n (pc := 44) C dX4_compare_44 rfl ?_
    refine cr_if_eq_f (pc := 45) (tgt := 57) C dX4_compare_45 (by decide) (by decide) ?_
    refine cr_iload (pc := 48) C dX4_compare_48 rfl ?_
    refine cr_if_eq_f (pc := 50) (tgt := 57) C dX4_compare_50 (by decide) (by decide) ?_
    refine cr_iconst (pc := 53) (v := nI 0) C dX4_compare_53 (by decide) ?_
    refine cr_goto (pc := 54) (tgt := 75) C dX4_compare_54 (by decide) ?_
    refine cr_ireturn (pc := 75) C X dX4_compare_75 ?_
    exact ⟨rfl, cg_sb_id M 20⟩
set_option maxRecDepth 100000 in
set_option maxHeartbeats 4000000 in
theorem sm_compare0 {M : cg_M} {x y : Int32} (h : ¬ (cg_in x 3 ∧ cg_in y 3)) : cg_D yX4_compare wsX4_compare rmX4_compare [.inr (.inr (4, 0, 0, 0)), .inl (x), .inl (y)] M (some (.inl (-2))) (cg_erm M 0) := by
  rcases Classical.em (cg_in x 3) with ⟨a, h0, rfl⟩ | hx
  · refine cg_S_of (cc := cX4_compare) (maxL := 5) (ret := (some .int)) (ls0 := [some (.inr (.inr (4, 0, 0, 0))), some (.inl (nI a)), some (.inl (y)), none, none]) RX4 rfl (by decide) rfl rfl (Nat.le_of_ble_eq_true rfl) (fun E C X => ?_)
    refine cr_iload_n (pc := 0) C dX4_compare_0 rfl ?_
    refine cr_dS (pc := 1) C (sm_isReplica1 h0) rfl gX4_compare_X4_isReplica rfl dX4_compare_1 hsX4_isReplica rfl ⟨rfl, rfl, Nat.le_of_ble_eq_true rfl, Nat.le_of_ble_eq_true rfl⟩ (Nat.le_of_ble_eq_true rfl) rfl ?_
    refine cr_if_eq_f (pc := 4) (tgt := 14) C dX4_compare_4 (by decide) (by decide) ?_
    refine cr_iload_n (pc := 7) C dX4_compare_7 rfl ?_
    refine cr_dS (pc := 8) C (sm_isReplica0 (fun q => h ⟨⟨_, h0, rfl⟩, q⟩)) rfl gX4_compare_X4_isReplica rfl dX4_compare_8 hsX4_isReplica rfl ⟨rfl, rfl, Nat.le_of_ble_eq_true rfl, Nat.le_of_ble_eq_true rfl⟩ (Nat.le_of_ble_eq_true rfl) rfl ?_
    refine cr_if_ne_f (pc := 11) (tgt := 21) C dX4_compare_11 (by decide) (by decide) ?_
    refine cr_aload_n (pc := 14) C dX4_compare_14 rfl ?_
    refine cr_bipush (pc := 15) (v := (-2)) C dX4_compare_15 (by decide) ?_
    refine cr_dV (pc := 17) C (sm_error (e := 0) (by decide) (by decide)) rfl gX4_compare_X4_error rfl dX4_compare_17 (by first | rfl | assumption | (simp [cg_ok]; omega)) rfl hvX4_error rfl ⟨rfl, rfl, Nat.le_of_ble_eq_true rfl, Nat.le_of_ble_eq_true rfl⟩ (Nat.le_of_ble_eq_true rfl) rfl ?_
    refine cr_ireturn (pc := 20) C X dX4_compare_20 ?_
    exact ⟨rfl, rfl⟩
  · refine cg_S_of (cc := cX4_compare) (maxL := 5) (ret := (some .int)) (ls0 := [some (.inr (.inr (4, 0, 0, 0))), some (.inl (x)), some (.inl (y)), none, none]) RX4 rfl (by decide) rfl rfl (Nat.le_of_ble_eq_true rfl) (fun E C X => ?_)
    refine cr_iload_n (pc := 0) C dX4_compare_0 rfl ?_
    refine cr_dS (pc := 1) C (sm_isReplica0 hx) rfl gX4_compare_X4_isReplica rfl dX4_compare_1 hsX4_isReplica rfl ⟨rfl, rfl, Nat.le_of_ble_eq_true rfl, Nat.le_of_ble_eq_true rfl⟩ (Nat.le_of_ble_eq_true rfl) rfl ?_
    refine cr_if_eq_t (pc := 4) (tgt := 14) C dX4_compare_4 (by decide) (by decide) ?_
    refine cr_aload_n (pc := 14) C dX4_compare_14 rfl ?_
    refine cr_bipush (pc := 15) (v := (-2)) C dX4_compare_15 (by decide) ?_
    refine cr_dV (pc := 17) C (sm_error (e := 0) (by decide) (by decide)) rfl gX4_compare_X4_error rfl dX4_compare_17 (by first | rfl | assumption | (simp [cg_ok]; omega)) rfl hvX4_error rfl ⟨rfl, rfl, Nat.le_of_ble_eq_true rfl, Nat.le_of_ble_eq_true rfl⟩ (Nat.le_of_ble_eq_true rfl) rfl ?_
    refine cr_ireturn (pc := 20) C X dX4_compare_20 ?_
    exact ⟨rfl, rfl⟩
