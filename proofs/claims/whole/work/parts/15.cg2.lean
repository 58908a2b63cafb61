/-! ===== ClientGuarantees: questions ===== -/
theorem cg_bf {b : Bool} (h : cg_b b = 0) : b = false := by
  cases b
  · rfl
  · exact absurd h (by decide)
theorem cg_bt {b : Bool} (h : ¬ cg_b b = 0) : b = true := by
  cases b
  · exact absurd rfl h
  · rfl
def cg_rr (P : Nat → Int32) (c : Nat) : Int32 := if cg_rA P c (2 ^ 0) = true then nI 0 else if cg_rA P c (2 ^ 1) = true then nI 1 else if cg_rA P c (2 ^ 2) = true then nI 2 else -1
def cg_wr3 (P : Nat → Int32) (c : Nat) : Int32 := if cg_wA P c 0 = true then nI 0 else if cg_wA P c 1 = true then nI 1 else if cg_wA P c 2 = true then nI 2 else -1
def cg_s4 (P : Nat → Int32) (c a0 b0 a1 b1 a2 b2 a3 b3 : Nat) : Int32 := if cg_rA P c b0 = true then nI a0 else if cg_rA P c b1 = true then nI a1 else if cg_rA P c b2 = true then nI a2 else if cg_rA P c b3 = true then nI a3 else -1
def cg_sf (P : Nat → Int32) (c r : Nat) : Int32 := if r = 0 then cg_s4 P c 0 1 2 3 4 5 6 7 else if r = 1 then cg_s4 P c 0 2 1 3 4 6 5 7 else cg_s4 P c 0 4 1 5 2 6 3 7
def cg_cmp (a b : Bool) : Int32 := if a = true then (if b = true then nI 0 else nI 1) else (if b = true then nI 2 else nI 3)
set_option maxRecDepth 100000 in
set_option maxHeartbeats 4000000 in
theorem sp_readBreaches1 {M : cg_M} {c r : Nat}  (hc : c < 4) (hr : r < 3)  : cg_D yX3_readBreaches wsX3_readBreaches rmX3_readBreaches [.inr (.inr (3, 0, 0, 0)), .inl (nI c), .inl (nI r)] M (some (.inl (nI (cg_uR (M 0) c (2 ^ r))))) (M) := by
  refine cg_S_of (cc := cX3_readBreaches) (maxL := 3) (ret := (some .int)) (ls0 := [some (.inr (.inr (3, 0, 0, 0))), some (.inl (nI c)), some (.inl (nI r))]) RX3 rfl (by decide) rfl rfl (Nat.le_of_ble_eq_true rfl) (fun E C X => ?_)
  refine cr_iload_n (pc := 0) C dX3_readBreaches_0 rfl ?_
  refine cr_dS (pc := 1) C (sp_isClient1 hc) rfl gX3_readBreaches_X3_isClient rfl dX3_readBreaches_1 hsX3_isClient rfl ⟨rfl, rfl, Nat.le_of_ble_eq_true rfl, Nat.le_of_ble_eq_true rfl⟩ (Nat.le_of_ble_eq_true rfl) rfl ?_
  refine cr_if_eq_f (pc := 4) (tgt := 14) C dX3_readBreaches_4 (by decide) (by decide) ?_
  refine cr_iload_n (pc := 7) C dX3_readBreaches_7 rfl ?_
  refine cr_dS (pc := 8) C (sp_isReplica1 hr) rfl gX3_readBreaches_X3_isReplica rfl dX3_readBreaches_8 hsX3_isReplica rfl ⟨rfl, rfl, Nat.le_of_ble_eq_true rfl, Nat.le_of_ble_eq_true rfl⟩ (Nat.le_of_ble_eq_true rfl) rfl ?_
  refine cr_if_ne_t (pc := 11) (tgt := 21) C dX3_readBreaches_11 (by decide) (by decide) ?_
  refine cr_mem (cg_sb_id M 0).symm ?_
  refine cr_aload_n (pc := 21) C dX3_readBreaches_21 rfl ?_
  refine cr_getr (pc := 22) (c := 3) (k := 0) C (by first | rfl | assumption | (simp [cg_ok]; omega)) rfl (by decide) rfl inX3_readBreaches_X3 flX3_readBreaches_12 dX3_readBreaches_22 ?_
  refine cr_iload_n (pc := 25) C dX3_readBreaches_25 rfl ?_
  refine cr_iload_n (pc := 26) C dX3_readBreaches_26 rfl ?_
  refine cr_dS (pc := 27) C (sp_only hr) rfl gX3_readBreaches_X3_only rfl dX3_readBreaches_27 hsX3_only rfl ⟨rfl, rfl, Nat.le_of_ble_eq_true rfl, Nat.le_of_ble_eq_true rfl⟩ (Nat.le_of_ble_eq_true rfl) rfl ?_
  refine cr_dV (pc := 30) C (sp_uR hc (cg_two3 hr)) rfl gX3_readBreaches_X2_unmetByRead rfl dX3_readBreaches_30 (by first | rfl | assumption | (simp [cg_ok]; omega)) rfl hvX2_unmetByRead rfl ⟨rfl, rfl, Nat.le_of_ble_eq_true rfl, Nat.le_of_ble_eq_true rfl⟩ (Nat.le_of_ble_eq_true rfl) rfl ?_
  refine cr_ireturn (pc := 33) C X dX3_readBreaches_33 ?_
  exact ⟨rfl, cg_sb_id M 0⟩
set_option maxRecDepth 100000 in
set_option maxHeartbeats 4000000 in
theorem sp_readBreaches0 {M : cg_M} {x y : Int32} (h : ¬ (cg_in x 4 ∧ cg_in y 3)) : cg_D yX3_readBreaches wsX3_readBreaches rmX3_readBreaches [.inr (.inr (3, 0, 0, 0)), .inl (x), .inl (y)] M (some (.inl (-2))) (cg_err M 0) := by
  rcases Classical.em (cg_in x 4) with ⟨a, h0, rfl⟩ | hx
  · refine cg_S_of (cc := cX3_readBreaches) (maxL := 3) (ret := (some .int)) (ls0 := [some (.inr (.inr (3, 0, 0, 0))), some (.inl (nI a)), some (.inl (y))]) RX3 rfl (by decide) rfl rfl (Nat.le_of_ble_eq_true rfl) (fun E C X => ?_)
    refine cr_iload_n (pc := 0) C dX3_readBreaches_0 rfl ?_
    refine cr_dS (pc := 1) C (sp_isClient1 h0) rfl gX3_readBreaches_X3_isClient rfl dX3_readBreaches_1 hsX3_isClient rfl ⟨rfl, rfl, Nat.le_of_ble_eq_true rfl, Nat.le_of_ble_eq_true rfl⟩ (Nat.le_of_ble_eq_true rfl) rfl ?_
    refine cr_if_eq_f (pc := 4) (tgt := 14) C dX3_readBreaches_4 (by decide) (by decide) ?_
    refine cr_iload_n (pc := 7) C dX3_readBreaches_7 rfl ?_
    refine cr_dS (pc := 8) C (sp_isReplica0 (fun q => h ⟨⟨_, h0, rfl⟩, q⟩)) rfl gX3_readBreaches_X3_isReplica rfl dX3_readBreaches_8 hsX3_isReplica rfl ⟨rfl, rfl, Nat.le_of_ble_eq_true rfl, Nat.le_of_ble_eq_true rfl⟩ (Nat.le_of_ble_eq_true rfl) rfl ?_
    refine cr_if_ne_f (pc := 11) (tgt := 21) C dX3_readBreaches_11 (by decide) (by decide) ?_
    refine cr_aload_n (pc := 14) C dX3_readBreaches_14 rfl ?_
    refine cr_bipush (pc := 15) (v := (-2)) C dX3_readBreaches_15 (by decide) ?_
    refine cr_dV (pc := 17) C (sp_counted1 (e := 0) (by decide) (by decide) (by decide) (by decide)) rfl gX3_readBreaches_X3_counted rfl dX3_readBreaches_17 (by first | rfl | assumption | (simp [cg_ok]; omega)) rfl hvX3_counted rfl ⟨rfl, rfl, Nat.le_of_ble_eq_true rfl, Nat.le_of_ble_eq_true rfl⟩ (Nat.le_of_ble_eq_true rfl) rfl ?_
    refine cr_ireturn (pc := 20) C X dX3_readBreaches_20 ?_
    exact ⟨rfl, rfl⟩
  · refine cg_S_of (cc := cX3_readBreaches) (maxL := 3) (ret := (some .int)) (ls0 := [some (.inr (.inr (3, 0, 0, 0))), some (.inl (x)), some (.inl (y))]) RX3 rfl (by decide) rfl rfl (Nat.le_of_ble_eq_true rfl) (fun E C X => ?_)
    refine cr_iload_n (pc := 0) C dX3_readBreaches_0 rfl ?_
    refine cr_dS (pc := 1) C (sp_isClient0 hx) rfl gX3_readBreaches_X3_isClient rfl dX3_readBreaches_1 hsX3_isClient rfl ⟨rfl, rfl, Nat.le_of_ble_eq_true rfl, Nat.le_of_ble_eq_true rfl⟩ (Nat.le_of_ble_eq_true rfl) rfl ?_
    refine cr_if_eq_t (pc := 4) (tgt := 14) C dX3_readBreaches_4 (by decide) (by decide) ?_
    refine cr_aload_n (pc := 14) C dX3_readBreaches_14 rfl ?_
    refine cr_bipush (pc := 15) (v := (-2)) C dX3_readBreaches_15 (by decide) ?_
    refine cr_dV (pc := 17) C (sp_counted1 (e := 0) (by decide) (by decide) (by decide) (by decide)) rfl gX3_readBreaches_X3_counted rfl dX3_readBreaches_17 (by first | rfl | assumption | (simp [cg_ok]; omega)) rfl hvX3_counted rfl ⟨rfl, rfl, Nat.le_of_ble_eq_true rfl, Nat.le_of_ble_eq_true rfl⟩ (Nat.le_of_ble_eq_true rfl) rfl ?_
    refine cr_ireturn (pc := 20) C X dX3_readBreaches_20 ?_
    exact ⟨rfl, rfl⟩
set_option maxRecDepth 100000 in
set_option maxHeartbeats 4000000 in
theorem sp_writeBreaches1 {M : cg_M} {c r : Nat}  (hc : c < 4) (hr : r < 3)  : cg_D yX3_writeBreaches wsX3_writeBreaches rmX3_writeBreaches [.inr (.inr (3, 0, 0, 0)), .inl (nI c), .inl (nI r)] M (some (.inl (nI (cg_uW (M 0) c r)))) (M) := by
  refine cg_S_of (cc := cX3_writeBreaches) (maxL := 3) (ret := (some .int)) (ls0 := [some (.inr (.inr (3, 0, 0, 0))), some (.inl (nI c)), some (.inl (nI r))]) RX3 rfl (by decide) rfl rfl (Nat.le_of_ble_eq_true rfl) (fun E C X => ?_)
  refine cr_iload_n (pc := 0) C dX3_writeBreaches_0 rfl ?_
  refine cr_dS (pc := 1) C (sp_isClient1 hc) rfl gX3_writeBreaches_X3_isClient rfl dX3_writeBreaches_1 hsX3_isClient rfl ⟨rfl, rfl, Nat.le_of_ble_eq_true rfl, Nat.le_of_ble_eq_true rfl⟩ (Nat.le_of_ble_eq_true rfl) rfl ?_
  refine cr_if_eq_f (pc := 4) (tgt := 14) C dX3_writeBreaches_4 (by decide) (by decide) ?_
  refine cr_iload_n (pc := 7) C dX3_writeBreaches_7 rfl ?_
  refine cr_dS (pc := 8) C (sp_isReplica1 hr) rfl gX3_writeBreaches_X3_isReplica rfl dX3_writeBreaches_8 hsX3_isReplica rfl ⟨rfl, rfl, Nat.le_of_ble_eq_true rfl, Nat.le_of_ble_eq_true rfl⟩ (Nat.le_of_ble_eq_true rfl) rfl ?_
  refine cr_if_ne_t (pc := 11) (tgt := 21) C dX3_writeBreaches_11 (by decide) (by decide) ?_
  refine cr_mem (cg_sb_id M 0).symm ?_
  refine cr_aload_n (pc := 21) C dX3_writeBreaches_21 rfl ?_
  refine cr_getr (pc := 22) (c := 3) (k := 0) C (by first | rfl | assumption | (simp [cg_ok]; omega)) rfl (by decide) rfl inX3_writeBreaches_X3 flX3_writeBreaches_12 dX3_writeBreaches_22 ?_
  refine cr_iload_n (pc := 25) C dX3_writeBreaches_25 rfl ?_
  refine cr_iload_n (pc := 26) C dX3_writeBreaches_26 rfl ?_
  refine cr_dV (pc := 27) C (sp_uW hc hr) rfl gX3_writeBreaches_X2_unmetByWrite rfl dX3_writeBreaches_27 (by first | rfl | assumption | (simp [cg_ok]; omega)) rfl hvX2_unmetByWrite rfl ⟨rfl, rfl, Nat.le_of_ble_eq_true rfl, Nat.le_of_ble_eq_true rfl⟩ (Nat.le_of_ble_eq_true rfl) rfl ?_
  refine cr_ireturn (pc := 30) C X dX3_writeBreaches_30 ?_
  exact ⟨rfl, cg_sb_id M 0⟩
set_option maxRecDepth 100000 in
set_option maxHeartbeats 4000000 in
theorem sp_writeBreaches0 {M : cg_M} {x y : Int32} (h : ¬ (cg_in x 4 ∧ cg_in y 3)) : cg_D yX3_writeBreaches wsX3_writeBreaches rmX3_writeBreaches [.inr (.inr (3, 0, 0, 0)), .inl (x), .inl (y)] M (some (.inl (-2))) (cg_err M 0) := by
  rcases Classical.em (cg_in x 4) with ⟨a, h0, rfl⟩ | hx
  · refine cg_S_of (cc := cX3_writeBreaches) (maxL := 3) (ret := (some .int)) (ls0 := [some (.inr (.inr (3, 0, 0, 0))), some (.inl (nI a)), some (.inl (y))]) RX3 rfl (by decide) rfl rfl (Nat.le_of_ble_eq_true rfl) (fun E C X => ?_)
    refine cr_iload_n (pc := 0) C dX3_writeBreaches_0 rfl ?_
    refine cr_dS (pc := 1) C (sp_isClient1 h0) rfl gX3_writeBreaches_X3_isClient rfl dX3_writeBreaches_1 hsX3_isClient rfl ⟨rfl, rfl, Nat.le_of_ble_eq_true rfl, Nat.le_of_ble_eq_true rfl⟩ (Nat.le_of_ble_eq_true rfl) rfl ?_
    refine cr_if_eq_f (pc := 4) (tgt := 14) C dX3_writeBreaches_4 (by decide) (by decide) ?_
    refine cr_iload_n (pc := 7) C dX3_writeBreaches_7 rfl ?_
    refine cr_dS (pc := 8) C (sp_isReplica0 (fun q => h ⟨⟨_, h0, rfl⟩, q⟩)) rfl gX3_writeBreaches_X3_isReplica rfl dX3_writeBreaches_8 hsX3_isReplica rfl ⟨rfl, rfl, Nat.le_of_ble_eq_true rfl, Nat.le_of_ble_eq_true rfl⟩ (Nat.le_of_ble_eq_true rfl) rfl ?_
    refine cr_if_ne_f (pc := 11) (tgt := 21) C dX3_writeBreaches_11 (by decide) (by decide) ?_
    refine cr_aload_n (pc := 14) C dX3_writeBreaches_14 rfl ?_
    refine cr_bipush (pc := 15) (v := (-2)) C dX3_writeBreaches_15 (by decide) ?_
    refine cr_dV (pc := 17) C (sp_counted1 (e := 0) (by decide) (by decide) (by decide) (by decide)) rfl gX3_writeBreaches_X3_counted rfl dX3_writeBreaches_17 (by first | rfl | assumption | (simp [cg_ok]; omega)) rfl hvX3_counted rfl ⟨rfl, rfl, Nat.le_of_ble_eq_true rfl, Nat.le_of_ble_eq_true rfl⟩ (Nat.le_of_ble_eq_true rfl) rfl ?_
    refine cr_ireturn (pc := 20) C X dX3_writeBreaches_20 ?_
    exact ⟨rfl, rfl⟩
  · refine cg_S_of (cc := cX3_writeBreaches) (maxL := 3) (ret := (some .int)) (ls0 := [some (.inr (.inr (3, 0, 0, 0))), some (.inl (x)), some (.inl (y))]) RX3 rfl (by decide) rfl rfl (Nat.le_of_ble_eq_true rfl) (fun E C X => ?_)
    refine cr_iload_n (pc := 0) C dX3_writeBreaches_0 rfl ?_
    refine cr_dS (pc := 1) C (sp_isClient0 hx) rfl gX3_writeBreaches_X3_isClient rfl dX3_writeBreaches_1 hsX3_isClient rfl ⟨rfl, rfl, Nat.le_of_ble_eq_true rfl, Nat.le_of_ble_eq_true rfl⟩ (Nat.le_of_ble_eq_true rfl) rfl ?_
    refine cr_if_eq_t (pc := 4) (tgt := 14) C dX3_writeBreaches_4 (by decide) (by decide) ?_
    refine cr_aload_n (pc := 14) C dX3_writeBreaches_14 rfl ?_
    refine cr_bipush (pc := 15) (v := (-2)) C dX3_writeBreaches_15 (by decide) ?_
    refine cr_dV (pc := 17) C (sp_counted1 (e := 0) (by decide) (by decide) (by decide) (by decide)) rfl gX3_writeBreaches_X3_counted rfl dX3_writeBreaches_17 (by first | rfl | assumption | (simp [cg_ok]; omega)) rfl hvX3_counted rfl ⟨rfl, rfl, Nat.le_of_ble_eq_true rfl, Nat.le_of_ble_eq_true rfl⟩ (Nat.le_of_ble_eq_true rfl) rfl ?_
    refine cr_ireturn (pc := 20) C X dX3_writeBreaches_20 ?_
    exact ⟨rfl, rfl⟩
set_option maxRecDepth 100000 in
set_option maxHeartbeats 4000000 in
theorem sp_readableReplica1 {M : cg_M} {c : Nat}  (hc : c < 4)  : cg_D yX3_readableReplica wsX3_readableReplica rmX3_readableReplica [.inr (.inr (3, 0, 0, 0)), .inl (nI c)] M (some (.inl (cg_rr (M 0) c))) (M) := by
  refine cg_S_of (cc := cX3_readableReplica) (maxL := 3) (ret := (some .int)) (ls0 := [some (.inr (.inr (3, 0, 0, 0))), some (.inl (nI c)), none]) RX3 rfl (by decide) rfl rfl (Nat.le_of_ble_eq_true rfl) (fun E C X => ?_)
  refine cr_iload_n (pc := 0) C dX3_readableReplica_0 rfl ?_
  refine cr_dS (pc := 1) C (sp_isClient1 hc) rfl gX3_readableReplica_X3_isClient rfl dX3_readableReplica_1 hsX3_isClient rfl ⟨rfl, rfl, Nat.le_of_ble_eq_true rfl, Nat.le_of_ble_eq_true rfl⟩ (Nat.le_of_ble_eq_true rfl) rfl ?_
  refine cr_if_ne_t (pc := 4) (tgt := 14) C dX3_readableReplica_4 (by decide) (by decide) ?_
  refine cr_mem (cg_sb_id M 0).symm ?_
  refine cr_iconst (pc := 14) (v := nI 0) C dX3_readableReplica_14 (by decide) ?_
  refine cr_istore_n2 (pc := 15) C dX3_readableReplica_15 (by decide) rfl ?_
  refine cr_iload_n (pc := 16) C dX3_readableReplica_16 rfl ?_
  refine cr_iconst (pc := 17) (v := nI 3) C dX3_readableReplica_17 (by decide) ?_
  refine cr_icmp_ge_f (pc := 18) (tgt := 44) C dX3_readableReplica_18 (by decide) (by decide) ?_
  refine cr_aload_n (pc := 21) C dX3_readableReplica_21 rfl ?_
  refine cr_getr (pc := 22) (c := 3) (k := 0) C (by first | rfl | assumption | (simp [cg_ok]; omega)) rfl (by decide) rfl inX3_readableReplica_X3 flX3_readableReplica_12 dX3_readableReplica_22 ?_
  refine cr_iload_n (pc := 25) C dX3_readableReplica_25 rfl ?_
  refine cr_iload_n (pc := 26) C dX3_readableReplica_26 rfl ?_
  refine cr_dS (pc := 27) C (sp_only (by decide)) rfl gX3_readableReplica_X3_only rfl dX3_readableReplica_27 hsX3_only rfl ⟨rfl, rfl, Nat.le_of_ble_eq_true rfl, Nat.le_of_ble_eq_true rfl⟩ (Nat.le_of_ble_eq_true rfl) rfl ?_
  refine cr_dV (pc := 30) C (sp_rA hc (by decide)) rfl gX3_readableReplica_X2_isReadAllowed rfl dX3_readableReplica_30 (by first | rfl | assumption | (simp [cg_ok]; omega)) rfl hvX2_isReadAllowed rfl ⟨rfl, rfl, Nat.le_of_ble_eq_true rfl, Nat.le_of_ble_eq_true rfl⟩ (Nat.le_of_ble_eq_true rfl) rfl ?_
  refine cr_if_eq (pc := 33) (tgt := 38) C dX3_readableReplica_33 (by decide) (fun h33 => ?_) (fun h33 => ?_)
  · have e0 := cg_bf h33
    refine cr_iinc2 (pc := 38) (v := nI 1) C dX3_readableReplica_38 (by decide) (by decide) rfl ?_
    refine cr_goto (pc := 41) (tgt := 16) C dX3_readableReplica_41 (by decide) ?_
    refine cr_iload_n (pc := 16) C dX3_readableReplica_16 rfl ?_
    refine cr_iconst (pc := 17) (v := nI 3) C dX3_readableReplica_17 (by decide) ?_
    refine cr_icmp_ge_f (pc := 18) (tgt := 44) C dX3_readableReplica_18 (by decide) (by decide) ?_
    refine cr_aload_n (pc := 21) C dX3_readableReplica_21 rfl ?_
    refine cr_getr (pc := 22) (c := 3) (k := 0) C (by first | rfl | assumption | (simp [cg_ok]; omega)) rfl (by decide) rfl inX3_readableReplica_X3 flX3_readableReplica_12 dX3_readableReplica_22 ?_
    refine cr_iload_n (pc := 25) C dX3_readableReplica_25 rfl ?_
    refine cr_iload_n (pc := 26) C dX3_readableReplica_26 rfl ?_
    refine cr_dS (pc := 27) C (sp_only (by decide)) rfl gX3_readableReplica_X3_only rfl dX3_readableReplica_27 hsX3_only rfl ⟨rfl, rfl, Nat.le_of_ble_eq_true rfl, Nat.le_of_ble_eq_true rfl⟩ (Nat.le_of_ble_eq_true rfl) rfl ?_
    refine cr_dV (pc := 30) C (sp_rA hc (by decide)) rfl gX3_readableReplica_X2_isReadAllowed rfl dX3_readableReplica_30 (by first | rfl | assumption | (simp [cg_ok]; omega)) rfl hvX2_isReadAllowed rfl ⟨rfl, rfl, Nat.le_of_ble_eq_true rfl, Nat.le_of_ble_eq_true rfl⟩ (Nat.le_of_ble_eq_true rfl) rfl ?_
    refine cr_if_eq (pc := 33) (tgt := 38) C dX3_readableReplica_33 (by decide) (fun h33 => ?_) (fun h33 => ?_)
    · have e1 := cg_bf h33
      refine cr_iinc2 (pc := 38) (v := nI 2) C dX3_readableReplica_38 (by decide) (by decide) rfl ?_
      refine cr_goto (pc := 41) (tgt := 16) C dX3_readableReplica_41 (by decide) ?_
      refine cr_iload_n (pc := 16) C dX3_readableReplica_16 rfl ?_
      refine cr_iconst (pc := 17) (v := nI 3) C dX3_readableReplica_17 (by decide) ?_
      refine cr_icmp_ge_f (pc := 18) (tgt := 44) C dX3_readableReplica_18 (by decide) (by decide) ?_
      refine cr_aload_n (pc := 21) C dX3_readableReplica_21 rfl ?_
      refine cr_getr (pc := 22) (c := 3) (k := 0) C (by first | rfl | assumption | (simp [cg_ok]; omega)) rfl (by decide) rfl inX3_readableReplica_X3 flX3_readableReplica_12 dX3_readableReplica_22 ?_
      refine cr_iload_n (pc := 25) C dX3_readableReplica_25 rfl ?_
      refine cr_iload_n (pc := 26) C dX3_readableReplica_26 rfl ?_
      refine cr_dS (pc := 27) C (sp_only (by decide)) rfl gX3_readableReplica_X3_only rfl dX3_readableReplica_27 hsX3_only rfl ⟨rfl, rfl, Nat.le_of_ble_eq_true rfl, Nat.le_of_ble_eq_true rfl⟩ (Nat.le_of_ble_eq_true rfl) rfl ?_
      refine cr_dV (pc := 30) C (sp_rA hc (by decide)) rfl gX3_readableReplica_X2_isReadAllowed rfl dX3_readableReplica_30 (by first | rfl | assumption | (simp [cg_ok]; omega)) rfl hvX2_isReadAllowed rfl ⟨rfl, rfl, Nat.le_of_ble_eq_true rfl, Nat.le_of_ble_eq_true rfl⟩ (Nat.le_of_ble_eq_true rfl) rfl ?_
      refine cr_if_eq (pc := 33) (tgt := 38) C dX3_readableReplica_33 (by decide) (fun h33 => ?_) (fun h33 => ?_)
      · have e2 := cg_bf h33
        refine cr_iinc2 (pc := 38) (v := nI 3) C dX3_readableReplica_38 (by decide) (by decide) rfl ?_
        refine cr_goto (pc := 41) (tgt := 16) C dX3_readableReplica_41 (by decide) ?_
        refine cr_iload_n (pc := 16) C dX3_readableReplica_16 rfl ?_
        refine cr_iconst (pc := 17) (v := nI 3) C dX3_readableReplica_17 (by decide) ?_
        refine cr_icmp_ge_t (pc := 18) (tgt := 44) C dX3_readableReplica_18 (by decide) (by decide) ?_
        refine cr_iconst (pc := 44) (v := (-1)) C dX3_readableReplica_44 (by decide) ?_
        refine cr_ireturn (pc := 45) C X dX3_readableReplica_45 ?_
        exact ⟨by unfold cg_rr; simp [*], cg_sb_id M 0⟩
      · have e2 := cg_bt h33
        refine cr_iload_n (pc := 36) C dX3_readableReplica_36 rfl ?_
        refine cr_ireturn (pc := 37) C X dX3_readableReplica_37 ?_
        exact ⟨by unfold cg_rr; simp [*], cg_sb_id M 0⟩
    · have e1 := cg_bt h33
      refine cr_iload_n (pc := 36) C dX3_readableReplica_36 rfl ?_
      refine cr_ireturn (pc := 37) C X dX3_readableReplica_37 ?_
      exact ⟨by unfold cg_rr; simp [*], cg_sb_id M 0⟩
  · have e0 := cg_bt h33
    refine cr_iload_n (pc := 36) C dX3_readableReplica_36 rfl ?_
    refine cr_ireturn (pc := 37) C X dX3_readableReplica_37 ?_
    exact ⟨by unfold cg_rr; simp [*], cg_sb_id M 0⟩
set_option maxRecDepth 100000 in
set_option maxHeartbeats 4000000 in
theorem sp_readableReplica0 {M : cg_M} {x : Int32} (h : ¬ cg_in x 4) : cg_D yX3_readableReplica wsX3_readableReplica rmX3_readableReplica [.inr (.inr (3, 0, 0, 0)), .inl (x)] M (some (.inl (-2))) (cg_err M 0) := by
  refine cg_S_of (cc := cX3_readableReplica) (maxL := 3) (ret := (some .int)) (ls0 := [some (.inr (.inr (3, 0, 0, 0))), some (.inl (x)), none]) RX3 rfl (by decide) rfl rfl (Nat.le_of_ble_eq_true rfl) (fun E C X => ?_)
  refine cr_iload_n (pc := 0) C dX3_readableReplica_0 rfl ?_
  refine cr_dS (pc := 1) C (sp_isClient0 h) rfl gX3_readableReplica_X3_isClient rfl dX3_readableReplica_1 hsX3_isClient rfl ⟨rfl, rfl, Nat.le_of_ble_eq_true rfl, Nat.le_of_ble_eq_true rfl⟩ (Nat.le_of_ble_eq_true rfl) rfl ?_
  refine cr_if_ne_f (pc := 4) (tgt := 14) C dX3_readableReplica_4 (by decide) (by decide) ?_
  refine cr_aload_n (pc := 7) C dX3_readableReplica_7 rfl ?_
  refine cr_bipush (pc := 8) (v := (-2)) C dX3_readableReplica_8 (by decide) ?_
  refine cr_dV (pc := 10) C (sp_counted1 (e := 0) (by decide) (by decide) (by decide) (by decide)) rfl gX3_readableReplica_X3_counted rfl dX3_readableReplica_10 (by first | rfl | assumption | (simp [cg_ok]; omega)) rfl hvX3_counted rfl ⟨rfl, rfl, Nat.le_of_ble_eq_true rfl, Nat.le_of_ble_eq_true rfl⟩ (Nat.le_of_ble_eq_true rfl) rfl ?_
  refine cr_ireturn (pc := 13) C X dX3_readableReplica_13 ?_
  exact ⟨rfl, rfl⟩
set_option maxRecDepth 100000 in
set_option maxHeartbeats 4000000 in
theorem sp_writableReplica1 {M : cg_M} {c : Nat}  (hc : c < 4)  : cg_D yX3_writableReplica wsX3_writableReplica rmX3_writableReplica [.inr (.inr (3, 0, 0, 0)), .inl (nI c)] M (some (.inl (cg_wr3 (M 0) c))) (M) := by
  refine cg_S_of (cc := cX3_writableReplica) (maxL := 3) (ret := (some .int)) (ls0 := [some (.inr (.inr (3, 0, 0, 0))), some (.inl (nI c)), none]) RX3 rfl (by decide) rfl rfl (Nat.le_of_ble_eq_true rfl) (fun E C X => ?_)
  refine cr_iload_n (pc := 0) C dX3_writableReplica_0 rfl ?_
  refine cr_dS (pc := 1) C (sp_isClient1 hc) rfl gX3_writableReplica_X3_isClient rfl dX3_writableReplica_1 hsX3_isClient rfl ⟨rfl, rfl, Nat.le_of_ble_eq_true rfl, Nat.le_of_ble_eq_true rfl⟩ (Nat.le_of_ble_eq_true rfl) rfl ?_
  refine cr_if_ne_t (pc := 4) (tgt := 14) C dX3_writableReplica_4 (by decide) (by decide) ?_
  refine cr_mem (cg_sb_id M 0).symm ?_
  refine cr_iconst (pc := 14) (v := nI 0) C dX3_writableReplica_14 (by decide) ?_
  refine cr_istore_n2 (pc := 15) C dX3_writableReplica_15 (by decide) rfl ?_
  refine cr_iload_n (pc := 16) C dX3_writableReplica_16 rfl ?_
  refine cr_iconst (pc := 17) (v := nI 3) C dX3_writableReplica_17 (by decide) ?_
  refine cr_icmp_ge_f (pc := 18) (tgt := 41) C dX3_writableReplica_18 (by decide) (by decide) ?_
  refine cr_aload_n (pc := 21) C dX3_writableReplica_21 rfl ?_
  refine cr_getr (pc := 22) (c := 3) (k := 0) C (by first | rfl | assumption | (simp [cg_ok]; omega)) rfl (by decide) rfl inX3_writableReplica_X3 flX3_writableReplica_12 dX3_writableReplica_22 ?_
  refine cr_iload_n (pc := 25) C dX3_writableReplica_25 rfl ?_
  refine cr_iload_n (pc := 26) C dX3_writableReplica_26 rfl ?_
  refine cr_dV (pc := 27) C (sp_wA hc (by decide)) rfl gX3_writableReplica_X2_isWriteAllowed rfl dX3_writableReplica_27 (by first | rfl | assumption | (simp [cg_ok]; omega)) rfl hvX2_isWriteAllowed rfl ⟨rfl, rfl, Nat.le_of_ble_eq_true rfl, Nat.le_of_ble_eq_true rfl⟩ (Nat.le_of_ble_eq_true rfl) rfl ?_
  refine cr_if_eq (pc := 30) (tgt := 35) C dX3_writableReplica_30 (by decide) (fun h30 => ?_) (fun h30 => ?_)
  · have e0 := cg_bf h30
    refine cr_iinc2 (pc := 35) (v := nI 1) C dX3_writableReplica_35 (by decide) (by decide) rfl ?_
    refine cr_goto (pc := 38) (tgt := 16) C dX3_writableReplica_38 (by decide) ?_
    refine cr_iload_n (pc := 16) C dX3_writableReplica_16 rfl ?_
    refine cr_iconst (pc := 17) (v := nI 3) C dX3_writableReplica_17 (by decide) ?_
    refine cr_icmp_ge_f (pc := 18) (tgt := 41) C dX3_writableReplica_18 (by decide) (by decide) ?_
    refine cr_aload_n (pc := 21) C dX3_writableReplica_21 rfl ?_
    refine cr_getr (pc := 22) (c := 3) (k := 0) C (by first | rfl | assumption | (simp [cg_ok]; omega)) rfl (by decide) rfl inX3_writableReplica_X3 flX3_writableReplica_12 dX3_writableReplica_22 ?_
    refine cr_iload_n (pc := 25) C dX3_writableReplica_25 rfl ?_
    refine cr_iload_n (pc := 26) C dX3_writableReplica_26 rfl ?_
    refine cr_dV (pc := 27) C (sp_wA hc (by decide)) rfl gX3_writableReplica_X2_isWriteAllowed rfl dX3_writableReplica_27 (by first | rfl | assumption | (simp [cg_ok]; omega)) rfl hvX2_isWriteAllowed rfl ⟨rfl, rfl, Nat.le_of_ble_eq_true rfl, Nat.le_of_ble_eq_true rfl⟩ (Nat.le_of_ble_eq_true rfl) rfl ?_
    refine cr_if_eq (pc := 30) (tgt := 35) C dX3_writableReplica_30 (by decide) (fun h30 => ?_) (fun h30 => ?_)
    · have e1 := cg_bf h30
      refine cr_iinc2 (pc := 35) (v := nI 2) C dX3_writableReplica_35 (by decide) (by decide) rfl ?_
      refine cr_goto (pc := 38) (tgt := 16) C dX3_writableReplica_38 (by decide) ?_
      refine cr_iload_n (pc := 16) C dX3_writableReplica_16 rfl ?_
      refine cr_iconst (pc := 17) (v := nI 3) C dX3_writableReplica_17 (by decide) ?_
      refine cr_icmp_ge_f (pc := 18) (tgt := 41) C dX3_writableReplica_18 (by decide) (by decide) ?_
      refine cr_aload_n (pc := 21) C dX3_writableReplica_21 rfl ?_
      refine cr_getr (pc := 22) (c := 3) (k := 0) C (by first | rfl | assumption | (simp [cg_ok]; omega)) rfl (by decide) rfl inX3_writableReplica_X3 flX3_writableReplica_12 dX3_writableReplica_22 ?_
      refine cr_iload_n (pc := 25) C dX3_writableReplica_25 rfl ?_
      refine cr_iload_n (pc := 26) C dX3_writableReplica_26 rfl ?_
      refine cr_dV (pc := 27) C (sp_wA hc (by decide)) rfl gX3_writableReplica_X2_isWriteAllowed rfl dX3_writableReplica_27 (by first | rfl | assumption | (simp [cg_ok]; omega)) rfl hvX2_isWriteAllowed rfl ⟨rfl, rfl, Nat.le_of_ble_eq_true rfl, Nat.le_of_ble_eq_true rfl⟩ (Nat.le_of_ble_eq_true rfl) rfl ?_
      refine cr_if_eq (pc := 30) (tgt := 35) C dX3_writableReplica_30 (by decide) (fun h30 => ?_) (fun h30 => ?_)
      · have e2 := cg_bf h30
        refine cr_iinc2 (pc := 35) (v := nI 3) C dX3_writableReplica_35 (by decide) (by decide) rfl ?_
        refine cr_goto (pc := 38) (tgt := 16) C dX3_writableReplica_38 (by decide) ?_
        refine cr_iload_n (pc := 16) C dX3_writableReplica_16 rfl ?_
        refine cr_iconst (pc := 17) (v := nI 3) C dX3_writableReplica_17 (by decide) ?_
        refine cr_icmp_ge_t (pc := 18) (tgt := 41) C dX3_writableReplica_18 (by decide) (by decide) ?_
        refine cr_iconst (pc := 41) (v := (-1)) C dX3_writableReplica_41 (by decide) ?_
        refine cr_ireturn (pc := 42) C X dX3_writableReplica_42 ?_
        exact ⟨by unfold cg_wr3; simp [*], cg_sb_id M 0⟩
      · have e2 := cg_bt h30
        refine cr_iload_n (pc := 33) C dX3_writableReplica_33 rfl ?_
        refine cr_ireturn (pc := 34) C X dX3_writableReplica_34 ?_
        exact ⟨by unfold cg_wr3; simp [*], cg_sb_id M 0⟩
    · have e1 := cg_bt h30
      refine cr_iload_n (pc := 33) C dX3_writableReplica_33 rfl ?_
      refine cr_ireturn (pc := 34) C X dX3_writableReplica_34 ?_
      exact ⟨by unfold cg_wr3; simp [*], cg_sb_id M 0⟩
  · have e0 := cg_bt h30
    refine cr_iload_n (pc := 33) C dX3_writableReplica_33 rfl ?_
    refine cr_ireturn (pc := 34) C X dX3_writableReplica_34 ?_
    exact ⟨by unfold cg_wr3; simp [*], cg_sb_id M 0⟩
set_option maxRecDepth 100000 in
set_option maxHeartbeats 4000000 in
theorem sp_writableReplica0 {M : cg_M} {x : Int32} (h : ¬ cg_in x 4) : cg_D yX3_writableReplica wsX3_writableReplica rmX3_writableReplica [.inr (.inr (3, 0, 0, 0)), .inl (x)] M (some (.inl (-2))) (cg_err M 0) := by
  refine cg_S_of (cc := cX3_writableReplica) (maxL := 3) (ret := (some .int)) (ls0 := [some (.inr (.inr (3, 0, 0, 0))), some (.inl (x)), none]) RX3 rfl (by decide) rfl rfl (Nat.le_of_ble_eq_true rfl) (fun E C X => ?_)
  refine cr_iload_n (pc := 0) C dX3_writableReplica_0 rfl ?_
  refine cr_dS (pc := 1) C (sp_isClient0 h) rfl gX3_writableReplica_X3_isClient rfl dX3_writableReplica_1 hsX3_isClient rfl ⟨rfl, rfl, Nat.le_of_ble_eq_true rfl, Nat.le_of_ble_eq_true rfl⟩ (Nat.le_of_ble_eq_true rfl) rfl ?_
  refine cr_if_ne_f (pc := 4) (tgt := 14) C dX3_writableReplica_4 (by decide) (by decide) ?_
  refine cr_aload_n (pc := 7) C dX3_writableReplica_7 rfl ?_
  refine cr_bipush (pc := 8) (v := (-2)) C dX3_writableReplica_8 (by decide) ?_
  refine cr_dV (pc := 10) C (sp_counted1 (e := 0) (by decide) (by decide) (by decide) (by decide)) rfl gX3_writableReplica_X3_counted rfl dX3_writableReplica_10 (by first | rfl | assumption | (simp [cg_ok]; omega)) rfl hvX3_counted rfl ⟨rfl, rfl, Nat.le_of_ble_eq_true rfl, Nat.le_of_ble_eq_true rfl⟩ (Nat.le_of_ble_eq_true rfl) rfl ?_
  refine cr_ireturn (pc := 13) C X dX3_writableReplica_13 ?_
  exact ⟨rfl, rfl⟩
set_option maxRecDepth 100000 in
set_option maxHeartbeats 4000000 in
theorem sp_syncsForRead1 {M : cg_M} {c r : Nat}  (hc : c < 4) (hr : r < 3)  : cg_D yX3_syncsForRead wsX3_syncsForRead rmX3_syncsForRead [.inr (.inr (3, 0, 0, 0)), .inl (nI c), .inl (nI r)] M (some (.inl (cg_sf (M 0) c r))) (M) := by
  rcases (show r = 0 ∨ r = 1 ∨ r = 2 by omega) with rfl | rfl | rfl
  · refine cg_S_of (cc := cX3_syncsForRead) (maxL := 4) (ret := (some .int)) (ls0 := [some (.inr (.inr (3, 0, 0, 0))), some (.inl (nI c)), some (.inl (nI 0)), none]) RX3 rfl (by decide) rfl rfl (Nat.le_of_ble_eq_true rfl) (fun E C X => ?_)
    refine cr_iload_n (pc := 0) C dX3_syncsForRead_0 rfl ?_
    refine cr_dS (pc := 1) C (sp_isClient1 hc) rfl gX3_syncsForRead_X3_isClient rfl dX3_syncsForRead_1 hsX3_isClient rfl ⟨rfl, rfl, Nat.le_of_ble_eq_true rfl, Nat.le_of_ble_eq_true rfl⟩ (Nat.le_of_ble_eq_true rfl) rfl ?_
    refine cr_if_eq_f (pc := 4) (tgt := 14) C dX3_syncsForRead_4 (by decide) (by decide) ?_
    refine cr_iload_n (pc := 7) C dX3_syncsForRead_7 rfl ?_
    refine cr_dS (pc := 8) C (sp_isReplica1 (by decide)) rfl gX3_syncsForRead_X3_isReplica rfl dX3_syncsForRead_8 hsX3_isReplica rfl ⟨rfl, rfl, Nat.le_of_ble_eq_true rfl, Nat.le_of_ble_eq_true rfl⟩ (Nat.le_of_ble_eq_true rfl) rfl ?_
    refine cr_if_ne_t (pc := 11) (tgt := 21) C dX3_syncsForRead_11 (by decide) (by decide) ?_
    refine cr_mem (cg_sb_id M 0).symm ?_
    refine cr_iconst (pc := 21) (v := nI 0) C dX3_syncsForRead_21 (by decide) ?_
    refine cr_istore_n3 (pc := 22) C dX3_syncsForRead_22 (by decide) rfl ?_
    refine cr_iload_n (pc := 23) C dX3_syncsForRead_23 rfl ?_
    refine cr_bipush (pc := 24) (v := nI 8) C dX3_syncsForRead_24 (by decide) ?_
    refine cr_icmp_ge_f (pc := 26) (tgt := 62) C dX3_syncsForRead_26 (by decide) (by decide) ?_
    refine cr_iload_n (pc := 29) C dX3_syncsForRead_29 rfl ?_
    refine cr_iload_n (pc := 30) C dX3_syncsForRead_30 rfl ?_
    refine cr_dS (pc := 31) C (sp_contains (by decide) (by decide)) rfl gX3_syncsForRead_X3_contains rfl dX3_syncsForRead_31 hsX3_contains rfl ⟨rfl, rfl, Nat.le_of_ble_eq_true rfl, Nat.le_of_ble_eq_true rfl⟩ (Nat.le_of_ble_eq_true rfl) rfl ?_
    refine cr_if_ne_f (pc := 34) (tgt := 56) C dX3_syncsForRead_34 (by decide) (by decide) ?_
    refine cr_aload_n (pc := 37) C dX3_syncsForRead_37 rfl ?_
    refine cr_getr (pc := 38) (c := 3) (k := 0) C (by first | rfl | assumption | (simp [cg_ok]; omega)) rfl (by decide) rfl inX3_syncsForRead_X3 flX3_syncsForRead_12 dX3_syncsForRead_38 ?_
    refine cr_iload_n (pc := 41) C dX3_syncsForRead_41 rfl ?_
    refine cr_iload_n (pc := 42) C dX3_syncsForRead_42 rfl ?_
    refine cr_iload_n (pc := 43) C dX3_syncsForRead_43 rfl ?_
    refine cr_dS (pc := 44) C (sp_only (by decide)) rfl gX3_syncsForRead_X3_only rfl dX3_syncsForRead_44 hsX3_only rfl ⟨rfl, rfl, Nat.le_of_ble_eq_true rfl, Nat.le_of_ble_eq_true rfl⟩ (Nat.le_of_ble_eq_true rfl) rfl ?_
    refine cr_ior (pc := 47) C dX3_syncsForRead_47 ?_
    refine cr_top (show nI 0 ||| nI (2 ^ 0) = nI 1 by decide) ?_
    refine cr_dV (pc := 48) C (sp_rA hc (by decide)) rfl gX3_syncsForRead_X2_isReadAllowed rfl dX3_syncsForRead_48 (by first | rfl | assumption | (simp [cg_ok]; omega)) rfl hvX2_isReadAllowed rfl ⟨rfl, rfl, Nat.le_of_ble_eq_true rfl, Nat.le_of_ble_eq_true rfl⟩ (Nat.le_of_ble_eq_true rfl) rfl ?_
    refine cr_if_eq (pc := 51) (tgt := 56) C dX3_syncsForRead_51 (by decide) (fun h51 => ?_) (fun h51 => ?_)
    · have e0 := cg_bf h51
      refine cr_iinc3 (pc := 56) (v := nI 1) C dX3_syncsForRead_56 (by decide) (by decide) rfl ?_
      refine cr_goto (pc := 59) (tgt := 23) C dX3_syncsForRead_59 (by decide) ?_
      refine cr_iload_n (pc := 23) C dX3_syncsForRead_23 rfl ?_
      refine cr_bipush (pc := 24) (v := nI 8) C dX3_syncsForRead_24 (by decide) ?_
      refine cr_icmp_ge_f (pc := 26) (tgt := 62) C dX3_syncsForRead_26 (by decide) (by decide) ?_
      refine cr_iload_n (pc := 29) C dX3_syncsForRead_29 rfl ?_
      refine cr_iload_n (pc := 30) C dX3_syncsForRead_30 rfl ?_
      refine cr_dS (pc := 31) C (sp_contains (by decide) (by decide)) rfl gX3_syncsForRead_X3_contains rfl dX3_syncsForRead_31 hsX3_contains rfl ⟨rfl, rfl, Nat.le_of_ble_eq_true rfl, Nat.le_of_ble_eq_true rfl⟩ (Nat.le_of_ble_eq_true rfl) rfl ?_
      refine cr_if_ne_t (pc := 34) (tgt := 56) C dX3_syncsForRead_34 (by decide) (by decide) ?_
      refine cr_iinc3 (pc := 56) (v := nI 2) C dX3_syncsForRead_56 (by decide) (by decide) rfl ?_
      refine cr_goto (pc := 59) (tgt := 23) C dX3_syncsForRead_59 (by decide) ?_
      refine cr_iload_n (pc := 23) C dX3_syncsForRead_23 rfl ?_
      refine cr_bipush (pc := 24) (v := nI 8) C dX3_syncsForRead_24 (by decide) ?_
      refine cr_icmp_ge_f (pc := 26) (tgt := 62) C dX3_syncsForRead_26 (by decide) (by decide) ?_
      refine cr_iload_n (pc := 29) C dX3_syncsForRead_29 rfl ?_
      refine cr_iload_n (pc := 30) C dX3_syncsForRead_30 rfl ?_
      refine cr_dS (pc := 31) C (sp_contains (by decide) (by decide)) rfl gX3_syncsForRead_X3_contains rfl dX3_syncsForRead_31 hsX3_contains rfl ⟨rfl, rfl, Nat.le_of_ble_eq_true rfl, Nat.le_of_ble_eq_true rfl⟩ (Nat.le_of_ble_eq_true rfl) rfl ?_
      refine cr_if_ne_f (pc := 34) (tgt := 56) C dX3_syncsForRead_34 (by decide) (by decide) ?_
      refine cr_aload_n (pc := 37) C dX3_syncsForRead_37 rfl ?_
      refine cr_getr (pc := 38) (c := 3) (k := 0) C (by first | rfl | assumption | (simp [cg_ok]; omega)) rfl (by decide) rfl inX3_syncsForRead_X3 flX3_syncsForRead_12 dX3_syncsForRead_38 ?_
      refine cr_iload_n (pc := 41) C dX3_syncsForRead_41 rfl ?_
      refine cr_iload_n (pc := 42) C dX3_syncsForRead_42 rfl ?_
      refine cr_iload_n (pc := 43) C dX3_syncsForRead_43 rfl ?_
      refine cr_dS (pc := 44) C (sp_only (by decide)) rfl gX3_syncsForRead_X3_only rfl dX3_syncsForRead_44 hsX3_only rfl ⟨rfl, rfl, Nat.le_of_ble_eq_true rfl, Nat.le_of_ble_eq_true rfl⟩ (Nat.le_of_ble_eq_true rfl) rfl ?_
      refine cr_ior (pc := 47) C dX3_syncsForRead_47 ?_
      refine cr_top (show nI 2 ||| nI (2 ^ 0) = nI 3 by decide) ?_
      refine cr_dV (pc := 48) C (sp_rA hc (by decide)) rfl gX3_syncsForRead_X2_isReadAllowed rfl dX3_syncsForRead_48 (by first | rfl | assumption | (simp [cg_ok]; omega)) rfl hvX2_isReadAllowed rfl ⟨rfl, rfl, Nat.le_of_ble_eq_true rfl, Nat.le_of_ble_eq_true rfl⟩ (Nat.le_of_ble_eq_true rfl) rfl ?_
      refine cr_if_eq (pc := 51) (tgt := 56) C dX3_syncsForRead_51 (by decide) (fun h51 => ?_) (fun h51 => ?_)
      · have e1 := cg_bf h51
        refine cr_iinc3 (pc := 56) (v := nI 3) C dX3_syncsForRead_56 (by decide) (by decide) rfl ?_
        refine cr_goto (pc := 59) (tgt := 23) C dX3_syncsForRead_59 (by decide) ?_
        refine cr_iload_n (pc := 23) C dX3_syncsForRead_23 rfl ?_
        refine cr_bipush (pc := 24) (v := nI 8) C dX3_syncsForRead_24 (by decide) ?_
        refine cr_icmp_ge_f (pc := 26) (tgt := 62) C dX3_syncsForRead_26 (by decide) (by decide) ?_
        refine cr_iload_n (pc := 29) C dX3_syncsForRead_29 rfl ?_
        refine cr_iload_n (pc := 30) C dX3_syncsForRead_30 rfl ?_
        refine cr_dS (pc := 31) C (sp_contains (by decide) (by decide)) rfl gX3_syncsForRead_X3_contains rfl dX3_syncsForRead_31 hsX3_contains rfl ⟨rfl, rfl, Nat.le_of_ble_eq_true rfl, Nat.le_of_ble_eq_true rfl⟩ (Nat.le_of_ble_eq_true rfl) rfl ?_
        refine cr_if_ne_t (pc := 34) (tgt := 56) C dX3_syncsForRead_34 (by decide) (by decide) ?_
        refine cr_iinc3 (pc := 56) (v := nI 4) C dX3_syncsForRead_56 (by decide) (by decide) rfl ?_
        refine cr_goto (pc := 59) (tgt := 23) C dX3_syncsForRead_59 (by decide) ?_
        refine cr_iload_n (pc := 23) C dX3_syncsForRead_23 rfl ?_
        refine cr_bipush (pc := 24) (v := nI 8) C dX3_syncsForRead_24 (by decide) ?_
        refine cr_icmp_ge_f (pc := 26) (tgt := 62) C dX3_syncsForRead_26 (by decide) (by decide) ?_
        refine cr_iload_n (pc := 29) C dX3_syncsForRead_29 rfl ?_
        refine cr_iload_n (pc := 30) C dX3_syncsForRead_30 rfl ?_
        refine cr_dS (pc := 31) C (sp_contains (by decide) (by decide)) rfl gX3_syncsForRead_X3_contains rfl dX3_syncsForRead_31 hsX3_contains rfl ⟨rfl, rfl, Nat.le_of_ble_eq_true rfl, Nat.le_of_ble_eq_true rfl⟩ (Nat.le_of_ble_eq_true rfl) rfl ?_
        refine cr_if_ne_f (pc := 34) (tgt := 56) C dX3_syncsForRead_34 (by decide) (by decide) ?_
        refine cr_aload_n (pc := 37) C dX3_syncsForRead_37 rfl ?_
        refine cr_getr (pc := 38) (c := 3) (k := 0) C (by first | rfl | assumption | (simp [cg_ok]; omega)) rfl (by decide) rfl inX3_syncsForRead_X3 flX3_syncsForRead_12 dX3_syncsForRead_38 ?_
        refine cr_iload_n (pc := 41) C dX3_syncsForRead_41 rfl ?_
        refine cr_iload_n (pc := 42) C dX3_syncsForRead_42 rfl ?_
        refine cr_iload_n (pc := 43) C dX3_syncsForRead_43 rfl ?_
        refine cr_dS (pc := 44) C (sp_only (by decide)) rfl gX3_syncsForRead_X3_only rfl dX3_syncsForRead_44 hsX3_only rfl ⟨rfl, rfl, Nat.le_of_ble_eq_true rfl, Nat.le_of_ble_eq_true rfl⟩ (Nat.le_of_ble_eq_true rfl) rfl ?_
        refine cr_ior (pc := 47) C dX3_syncsForRead_47 ?_
        refine cr_top (show nI 4 ||| nI (2 ^ 0) = nI 5 by decide) ?_
        refine cr_dV (pc := 48) C (sp_rA hc (by decide)) rfl gX3_syncsForRead_X2_isReadAllowed rfl dX3_syncsForRead_48 (by first | rfl | assumption | (simp [cg_ok]; omega)) rfl hvX2_isReadAllowed rfl ⟨rfl, rfl, Nat.le_of_ble_eq_true rfl, Nat.le_of_ble_eq_true rfl⟩ (Nat.le_of_ble_eq_true rfl) rfl ?_
        refine cr_if_eq (pc := 51) (tgt := 56) C dX3_syncsForRead_51 (by decide) (fun h51 => ?_) (fun h51 => ?_)
        · have e2 := cg_bf h51
          refine cr_iinc3 (pc := 56) (v := nI 5) C dX3_syncsForRead_56 (by decide) (by decide) rfl ?_
          refine cr_goto (pc := 59) (tgt := 23) C dX3_syncsForRead_59 (by decide) ?_
          refine cr_iload_n (pc := 23) C dX3_syncsForRead_23 rfl ?_
          refine cr_bipush (pc := 24) (v := nI 8) C dX3_syncsForRead_24 (by decide) ?_
          refine cr_icmp_ge_f (pc := 26) (tgt := 62) C dX3_syncsForRead_26 (by decide) (by decide) ?_
          refine cr_iload_n (pc := 29) C dX3_syncsForRead_29 rfl ?_
          refine cr_iload_n (pc := 30) C dX3_syncsForRead_30 rfl ?_
          refine cr_dS (pc := 31) C (sp_contains (by decide) (by decide)) rfl gX3_syncsForRead_X3_contains rfl dX3_syncsForRead_31 hsX3_contains rfl ⟨rfl, rfl, Nat.le_of_ble_eq_true rfl, Nat.le_of_ble_eq_true rfl⟩ (Nat.le_of_ble_eq_true rfl) rfl ?_
          refine cr_if_ne_t (pc := 34) (tgt := 56) C dX3_syncsForRead_34 (by decide) (by decide) ?_
          refine cr_iinc3 (pc := 56) (v := nI 6) C dX3_syncsForRead_56 (by decide) (by decide) rfl ?_
          refine cr_goto (pc := 59) (tgt := 23) C dX3_syncsForRead_59 (by decide) ?_
          refine cr_iload_n (pc := 23) C dX3_syncsForRead_23 rfl ?_
          refine cr_bipush (pc := 24) (v := nI 8) C dX3_syncsForRead_24 (by decide) ?_
          refine cr_icmp_ge_f (pc := 26) (tgt := 62) C dX3_syncsForRead_26 (by decide) (by decide) ?_
          refine cr_iload_n (pc := 29) C dX3_syncsForRead_29 rfl ?_
          refine cr_iload_n (pc := 30) C dX3_syncsForRead_30 rfl ?_
          refine cr_dS (pc := 31) C (sp_contains (by decide) (by decide)) rfl gX3_syncsForRead_X3_contains rfl dX3_syncsForRead_31 hsX3_contains rfl ⟨rfl, rfl, Nat.le_of_ble_eq_true rfl, Nat.le_of_ble_eq_true rfl⟩ (Nat.le_of_ble_eq_true rfl) rfl ?_
          refine cr_if_ne_f (pc := 34) (tgt := 56) C dX3_syncsForRead_34 (by decide) (by decide) ?_
          refine cr_aload_n (pc := 37) C dX3_syncsForRead_37 rfl ?_
          refine cr_getr (pc := 38) (c := 3) (k := 0) C (by first | rfl | assumption | (simp [cg_ok]; omega)) rfl (by decide) rfl inX3_syncsForRead_X3 flX3_syncsForRead_12 dX3_syncsForRead_38 ?_
          refine cr_iload_n (pc := 41) C dX3_syncsForRead_41 rfl ?_
          refine cr_iload_n (pc := 42) C dX3_syncsForRead_42 rfl ?_
          refine cr_iload_n (pc := 43) C dX3_syncsForRead_43 rfl ?_
          refine cr_dS (pc := 44) C (sp_only (by decide)) rfl gX3_syncsForRead_X3_only rfl dX3_syncsForRead_44 hsX3_only rfl ⟨rfl, rfl, Nat.le_of_ble_eq_true rfl, Nat.le_of_ble_eq_true rfl⟩ (Nat.le_of_ble_eq_true rfl) rfl ?_
          refine cr_ior (pc := 47) C dX3_syncsForRead_47 ?_
          refine cr_top (show nI 6 ||| nI (2 ^ 0) = nI 7 by decide) ?_
          refine cr_dV (pc := 48) C (sp_rA hc (by decide)) rfl gX3_syncsForRead_X2_isReadAllowed rfl dX3_syncsForRead_48 (by first | rfl | assumption | (simp [cg_ok]; omega)) rfl hvX2_isReadAllowed rfl ⟨rfl, rfl, Nat.le_of_ble_eq_true rfl, Nat.le_of_ble_eq_true rfl⟩ (Nat.le_of_ble_eq_true rfl) rfl ?_
          refine cr_if_eq (pc := 51) (tgt := 56) C dX3_syncsForRead_51 (by decide) (fun h51 => ?_) (fun h51 => ?_)
          · have e3 := cg_bf h51
            refine cr_iinc3 (pc := 56) (v := nI 7) C dX3_syncsForRead_56 (by decide) (by decide) rfl ?_
            refine cr_goto (pc := 59) (tgt := 23) C dX3_syncsForRead_59 (by decide) ?_
            refine cr_iload_n (pc := 23) C dX3_syncsForRead_23 rfl ?_
            refine cr_bipush (pc := 24) (v := nI 8) C dX3_syncsForRead_24 (by decide) ?_
            refine cr_icmp_ge_f (pc := 26) (tgt := 62) C dX3_syncsForRead_26 (by decide) (by decide) ?_
            refine cr_iload_n (pc := 29) C dX3_syncsForRead_29 rfl ?_
            refine cr_iload_n (pc := 30) C dX3_syncsForRead_30 rfl ?_
            refine cr_dS (pc := 31) C (sp_contains (by decide) (by decide)) rfl gX3_syncsForRead_X3_contains rfl dX3_syncsForRead_31 hsX3_contains rfl ⟨rfl, rfl, Nat.le_of_ble_eq_true rfl, Nat.le_of_ble_eq_true rfl⟩ (Nat.le_of_ble_eq_true rfl) rfl ?_
            refine cr_if_ne_t (pc := 34) (tgt := 56) C dX3_syncsForRead_34 (by decide) (by decide) ?_
            refine cr_iinc3 (pc := 56) (v := nI 8) C dX3_syncsForRead_56 (by decide) (by decide) rfl ?_
            refine cr_goto (pc := 59) (tgt := 23) C dX3_syncsForRead_59 (by decide) ?_
            refine cr_iload_n (pc := 23) C dX3_syncsForRead_23 rfl ?_
            refine cr_bipush (pc := 24) (v := nI 8) C dX3_syncsForRead_24 (by decide) ?_
            refine cr_icmp_ge_t (pc := 26) (tgt := 62) C dX3_syncsForRead_26 (by decide) (by decide) ?_
            refine cr_iconst (pc := 62) (v := (-1)) C dX3_syncsForRead_62 (by decide) ?_
            refine cr_ireturn (pc := 63) C X dX3_syncsForRead_63 ?_
            exact ⟨by unfold cg_sf cg_s4; simp [*], cg_sb_id M 0⟩
          · have e3 := cg_bt h51
            refine cr_iload_n (pc := 54) C dX3_syncsForRead_54 rfl ?_
            refine cr_ireturn (pc := 55) C X dX3_syncsForRead_55 ?_
            exact ⟨by unfold cg_sf cg_s4; simp [*], cg_sb_id M 0⟩
        · have e2 := cg_bt h51
          refine cr_iload_n (pc := 54) C dX3_syncsForRead_54 rfl ?_
          refine cr_ireturn (pc := 55) C X dX3_syncsForRead_55 ?_
          exact ⟨by unfold cg_sf cg_s4; simp [*], cg_sb_id M 0⟩
      · have e1 := cg_bt h51
        refine cr_iload_n (pc := 54) C dX3_syncsForRead_54 rfl ?_
        refine cr_ireturn (pc := 55) C X dX3_syncsForRead_55 ?_
        exact ⟨by unfold cg_sf cg_s4; simp [*], cg_sb_id M 0⟩
    · have e0 := cg_bt h51
      refine cr_iload_n (pc := 54) C dX3_syncsForRead_54 rfl ?_
      refine cr_ireturn (pc := 55) C X dX3_syncsForRead_55 ?_
      exact ⟨by unfold cg_sf cg_s4; simp [*], cg_sb_id M 0⟩
  · refine cg_S_of (cc := cX3_syncsForRead) (maxL := 4) (ret := (some .int)) (ls0 := [some (.inr (.inr (3, 0, 0, 0))), some (.inl (nI c)), some (.inl (nI 1)), none]) RX3 rfl (by decide) rfl rfl (Nat.le_of_ble_eq_true rfl) (fun E C X => ?_)
    refine cr_iload_n (pc := 0) C dX3_syncsForRead_0 rfl ?_
    refine cr_dS (pc := 1) C (sp_isClient1 hc) rfl gX3_syncsForRead_X3_isClient rfl dX3_syncsForRead_1 hsX3_isClient rfl ⟨rfl, rfl, Nat.le_of_ble_eq_true rfl, Nat.le_of_ble_eq_true rfl⟩ (Nat.le_of_ble_eq_true rfl) rfl ?_
    refine cr_if_eq_f (pc := 4) (tgt := 14) C dX3_syncsForRead_4 (by decide) (by decide) ?_
    refine cr_iload_n (pc := 7) C dX3_syncsForRead_7 rfl ?_
    refine cr_dS (pc := 8) C (sp_isReplica1 (by decide)) rfl gX3_syncsForRead_X3_isReplica rfl dX3_syncsForRead_8 hsX3_isReplica rfl ⟨rfl, rfl, Nat.le_of_ble_eq_true rfl, Nat.le_of_ble_eq_true rfl⟩ (Nat.le_of_ble_eq_true rfl) rfl ?_
    refine cr_if_ne_t (pc := 11) (tgt := 21) C dX3_syncsForRead_11 (by decide) (by decide) ?_
    refine cr_mem (cg_sb_id M 0).symm ?_
    refine cr_iconst (pc := 21) (v := nI 0) C dX3_syncsForRead_21 (by decide) ?_
    refine cr_istore_n3 (pc := 22) C dX3_syncsForRead_22 (by decide) rfl ?_
    refine cr_iload_n (pc := 23) C dX3_syncsForRead_23 rfl ?_
    refine cr_bipush (pc := 24) (v := nI 8) C dX3_syncsForRead_24 (by decide) ?_
    refine cr_icmp_ge_f (pc := 26) (tgt := 62) C dX3_syncsForRead_26 (by decide) (by decide) ?_
    refine cr_iload_n (pc := 29) C dX3_syncsForRead_29 rfl ?_
    refine cr_iload_n (pc := 30) C dX3_syncsForRead_30 rfl ?_
    refine cr_dS (pc := 31) C (sp_contains (by decide) (by decide)) rfl gX3_syncsForRead_X3_contains rfl dX3_syncsForRead_31 hsX3_contains rfl ⟨rfl, rfl, Nat.le_of_ble_eq_true rfl, Nat.le_of_ble_eq_true rfl⟩ (Nat.le_of_ble_eq_true rfl) rfl ?_
    refine cr_if_ne_f (pc := 34) (tgt := 56) C dX3_syncsForRead_34 (by decide) (by decide) ?_
    refine cr_aload_n (pc := 37) C dX3_syncsForRead_37 rfl ?_
    refine cr_getr (pc := 38) (c := 3) (k := 0) C (by first | rfl | assumption | (simp [cg_ok]; omega)) rfl (by decide) rfl inX3_syncsForRead_X3 flX3_syncsForRead_12 dX3_syncsForRead_38 ?_
    refine cr_iload_n (pc := 41) C dX3_syncsForRead_41 rfl ?_
    refine cr_iload_n (pc := 42) C dX3_syncsForRead_42 rfl ?_
    refine cr_iload_n (pc := 43) C dX3_syncsForRead_43 rfl ?_
    refine cr_dS (pc := 44) C (sp_only (by decide)) rfl gX3_syncsForRead_X3_only rfl dX3_syncsForRead_44 hsX3_only rfl ⟨rfl, rfl, Nat.le_of_ble_eq_true rfl, Nat.le_of_ble_eq_true rfl⟩ (Nat.le_of_ble_eq_true rfl) rfl ?_
    refine cr_ior (pc := 47) C dX3_syncsForRead_47 ?_
    refine cr_top (show nI 0 ||| nI (2 ^ 1) = nI 2 by decide) ?_
    refine cr_dV (pc := 48) C (sp_rA hc (by decide)) rfl gX3_syncsForRead_X2_isReadAllowed rfl dX3_syncsForRead_48 (by first | rfl | assumption | (simp [cg_ok]; omega)) rfl hvX2_isReadAllowed rfl ⟨rfl, rfl, Nat.le_of_ble_eq_true rfl, Nat.le_of_ble_eq_true rfl⟩ (Nat.le_of_ble_eq_true rfl) rfl ?_
    refine cr_if_eq (pc := 51) (tgt := 56) C dX3_syncsForRead_51 (by decide) (fun h51 => ?_) (fun h51 => ?_)
    · have e0 := cg_bf h51
      refine cr_iinc3 (pc := 56) (v := nI 1) C dX3_syncsForRead_56 (by decide) (by decide) rfl ?_
      refine cr_goto (pc := 59) (tgt := 23) C dX3_syncsForRead_59 (by decide) ?_
      refine cr_iload_n (pc := 23) C dX3_syncsForRead_23 rfl ?_
      refine cr_bipush (pc := 24) (v := nI 8) C dX3_syncsForRead_24 (by decide) ?_
      refine cr_icmp_ge_f (pc := 26) (tgt := 62) C dX3_syncsForRead_26 (by decide) (by decide) ?_
      refine cr_iload_n (pc := 29) C dX3_syncsForRead_29 rfl ?_
      refine cr_iload_n (pc := 30) C dX3_syncsForRead_30 rfl ?_
      refine cr_dS (pc := 31) C (sp_contains (by decide) (by decide)) rfl gX3_syncsForRead_X3_contains rfl dX3_syncsForRead_31 hsX3_contains rfl ⟨rfl, rfl, Nat.le_of_ble_eq_true rfl, Nat.le_of_ble_eq_true rfl⟩ (Nat.le_of_ble_eq_true rfl) rfl ?_
      refine cr_if_ne_f (pc := 34) (tgt := 56) C dX3_syncsForRead_34 (by decide) (by decide) ?_
      refine cr_aload_n (pc := 37) C dX3_syncsForRead_37 rfl ?_
      refine cr_getr (pc := 38) (c := 3) (k := 0) C (by first | rfl | assumption | (simp [cg_ok]; omega)) rfl (by decide) rfl inX3_syncsForRead_X3 flX3_syncsForRead_12 dX3_syncsForRead_38 ?_
      refine cr_iload_n (pc := 41) C dX3_syncsForRead_41 rfl ?_
      refine cr_iload_n (pc := 42) C dX3_syncsForRead_42 rfl ?_
      refine cr_iload_n (pc := 43) C dX3_syncsForRead_43 rfl ?_
      refine cr_dS (pc := 44) C (sp_only (by decide)) rfl gX3_syncsForRead_X3_only rfl dX3_syncsForRead_44 hsX3_only rfl ⟨rfl, rfl, Nat.le_of_ble_eq_true rfl, Nat.le_of_ble_eq_true rfl⟩ (Nat.le_of_ble_eq_true rfl) rfl ?_
      refine cr_ior (pc := 47) C dX3_syncsForRead_47 ?_
      refine cr_top (show nI 1 ||| nI (2 ^ 1) = nI 3 by decide) ?_
      refine cr_dV (pc := 48) C (sp_rA hc (by decide)) rfl gX3_syncsForRead_X2_isReadAllowed rfl dX3_syncsForRead_48 (by first | rfl | assumption | (simp [cg_ok]; omega)) rfl hvX2_isReadAllowed rfl ⟨rfl, rfl, Nat.le_of_ble_eq_true rfl, Nat.le_of_ble_eq_true rfl⟩ (Nat.le_of_ble_eq_true rfl) rfl ?_
      refine cr_if_eq (pc := 51) (tgt := 56) C dX3_syncsForRead_51 (by decide) (fun h51 => ?_) (fun h51 => ?_)
      · have e1 := cg_bf h51
        refine cr_iinc3 (pc := 56) (v := nI 2) C dX3_syncsForRead_56 (by decide) (by decide) rfl ?_
        refine cr_goto (pc := 59) (tgt := 23) C dX3_syncsForRead_59 (by decide) ?_
        refine cr_iload_n (pc := 23) C dX3_syncsForRead_23 rfl ?_
        refine cr_bipush (pc := 24) (v := nI 8) C dX3_syncsForRead_24 (by decide) ?_
        refine cr_icmp_ge_f (pc := 26) (tgt := 62) C dX3_syncsForRead_26 (by decide) (by decide) ?_
        refine cr_iload_n (pc := 29) C dX3_syncsForRead_29 rfl ?_
        refine cr_iload_n (pc := 30) C dX3_syncsForRead_30 rfl ?_
        refine cr_dS (pc := 31) C (sp_contains (by decide) (by decide)) rfl gX3_syncsForRead_X3_contains rfl dX3_syncsForRead_31 hsX3_contains rfl ⟨rfl, rfl, Nat.le_of_ble_eq_true rfl, Nat.le_of_ble_eq_true rfl⟩ (Nat.le_of_ble_eq_true rfl) rfl ?_
        refine cr_if_ne_t (pc := 34) (tgt := 56) C dX3_syncsForRead_34 (by decide) (by decide) ?_
        refine cr_iinc3 (pc := 56) (v := nI 3) C dX3_syncsForRead_56 (by decide) (by decide) rfl ?_
        refine cr_goto (pc := 59) (tgt := 23) C dX3_syncsForRead_59 (by decide) ?_
        refine cr_iload_n (pc := 23) C dX3_syncsForRead_23 rfl ?_
        refine cr_bipush (pc := 24) (v := nI 8) C dX3_syncsForRead_24 (by decide) ?_
        refine cr_icmp_ge_f (pc := 26) (tgt := 62) C dX3_syncsForRead_26 (by decide) (by decide) ?_
        refine cr_iload_n (pc := 29) C dX3_syncsForRead_29 rfl ?_
        refine cr_iload_n (pc := 30) C dX3_syncsForRead_30 rfl ?_
        refine cr_dS (pc := 31) C (sp_contains (by decide) (by decide)) rfl gX3_syncsForRead_X3_contains rfl dX3_syncsForRead_31 hsX3_contains rfl ⟨rfl, rfl, Nat.le_of_ble_eq_true rfl, Nat.le_of_ble_eq_true rfl⟩ (Nat.le_of_ble_eq_true rfl) rfl ?_
        refine cr_if_ne_t (pc := 34) (tgt := 56) C dX3_syncsForRead_34 (by decide) (by decide) ?_
        refine cr_iinc3 (pc := 56) (v := nI 4) C dX3_syncsForRead_56 (by decide) (by decide) rfl ?_
        refine cr_goto (pc := 59) (tgt := 23) C dX3_syncsForRead_59 (by decide) ?_
        refine cr_iload_n (pc := 23) C dX3_syncsForRead_23 rfl ?_
        refine cr_bipush (pc := 24) (v := nI 8) C dX3_syncsForRead_24 (by decide) ?_
        refine cr_icmp_ge_f (pc := 26) (tgt := 62) C dX3_syncsForRead_26 (by decide) (by decide) ?_
        refine cr_iload_n (pc := 29) C dX3_syncsForRead_29 rfl ?_
        refine cr_iload_n (pc := 30) C dX3_syncsForRead_30 rfl ?_
        refine cr_dS (pc := 31) C (sp_contains (by decide) (by decide)) rfl gX3_syncsForRead_X3_contains rfl dX3_syncsForRead_31 hsX3_contains rfl ⟨rfl, rfl, Nat.le_of_ble_eq_true rfl, Nat.le_of_ble_eq_true rfl⟩ (Nat.le_of_ble_eq_true rfl) rfl ?_
        refine cr_if_ne_f (pc := 34) (tgt := 56) C dX3_syncsForRead_34 (by decide) (by decide) ?_
        refine cr_aload_n (pc := 37) C dX3_syncsForRead_37 rfl ?_
        refine cr_getr (pc := 38) (c := 3) (k := 0) C (by first | rfl | assumption | (simp [cg_ok]; omega)) rfl (by decide) rfl inX3_syncsForRead_X3 flX3_syncsForRead_12 dX3_syncsForRead_38 ?_
        refine cr_iload_n (pc := 41) C dX3_syncsForRead_41 rfl ?_
        refine cr_iload_n (pc := 42) C dX3_syncsForRead_42 rfl ?_
        refine cr_iload_n (pc := 43) C dX3_syncsForRead_43 rfl ?_
        refine cr_dS (pc := 44) C (sp_only (by decide)) rfl gX3_syncsForRead_X3_only rfl dX3_syncsForRead_44 hsX3_only rfl ⟨rfl, rfl, Nat.le_of_ble_eq_true rfl, Nat.le_of_ble_eq_true rfl⟩ (Nat.le_of_ble_eq_true rfl) rfl ?_
        refine cr_ior (pc := 47) C dX3_syncsForRead_47 ?_
        refine cr_top (show nI 4 ||| nI (2 ^ 1) = nI 6 by decide) ?_
        refine cr_dV (pc := 48) C (sp_rA hc (by decide)) rfl gX3_syncsForRead_X2_isReadAllowed rfl dX3_syncsForRead_48 (by first | rfl | assumption | (simp [cg_ok]; omega)) rfl hvX2_isReadAllowed rfl ⟨rfl, rfl, Nat.le_of_ble_eq_true rfl, Nat.le_of_ble_eq_true rfl⟩ (Nat.le_of_ble_eq_true rfl) rfl ?_
        refine cr_if_eq (pc := 51) (tgt := 56) C dX3_syncsForRead_51 (by decide) (fun h51 => ?_) (fun h51 => ?_)
        · have e2 := cg_bf h51
          refine cr_iinc3 (pc := 56) (v := nI 5) C dX3_syncsForRead_56 (by decide) (by decide) rfl ?_
          refine cr_goto (pc := 59) (tgt := 23) C dX3_syncsForRead_59 (by decide) ?_
          refine cr_iload_n (pc := 23) C dX3_syncsForRead_23 rfl ?_
          refine cr_bipush (pc := 24) (v := nI 8) C dX3_syncsForRead_24 (by decide) ?_
          refine cr_icmp_ge_f (pc := 26) (tgt := 62) C dX3_syncsForRead_26 (by decide) (by decide) ?_
          refine cr_iload_n (pc := 29) C dX3_syncsForRead_29 rfl ?_
          refine cr_iload_n (pc := 30) C dX3_syncsForRead_30 rfl ?_
          refine cr_dS (pc := 31) C (sp_contains (by decide) (by decide)) rfl gX3_syncsForRead_X3_contains rfl dX3_syncsForRead_31 hsX3_contains rfl ⟨rfl, rfl, Nat.le_of_ble_eq_true rfl, Nat.le_of_ble_eq_true rfl⟩ (Nat.le_of_ble_eq_true rfl) rfl ?_
          refine cr_if_ne_f (pc := 34) (tgt := 56) C dX3_syncsForRead_34 (by decide) (by decide) ?_
          refine cr_aload_n (pc := 37) C dX3_syncsForRead_37 rfl ?_
          refine cr_getr (pc := 38) (c := 3) (k := 0) C (by first | rfl | assumption | (simp [cg_ok]; omega)) rfl (by decide) rfl inX3_syncsForRead_X3 flX3_syncsForRead_12 dX3_syncsForRead_38 ?_
          refine cr_iload_n (pc := 41) C dX3_syncsForRead_41 rfl ?_
          refine cr_iload_n (pc := 42) C dX3_syncsForRead_42 rfl ?_
          refine cr_iload_n (pc := 43) C dX3_syncsForRead_43 rfl ?_
          refine cr_dS (pc := 44) C (sp_only (by decide)) rfl gX3_syncsForRead_X3_only rfl dX3_syncsForRead_44 hsX3_only rfl ⟨rfl, rfl, Nat.le_of_ble_eq_true rfl, Nat.le_of_ble_eq_true rfl⟩ (Nat.le_of_ble_eq_true rfl) rfl ?_
          refine cr_ior (pc := 47) C dX3_syncsForRead_47 ?_
          refine cr_top (show nI 5 ||| nI (2 ^ 1) = nI 7 by decide) ?_
          refine cr_dV (pc := 48) C (sp_rA hc (by decide)) rfl gX3_syncsForRead_X2_isReadAllowed rfl dX3_syncsForRead_48 (by first | rfl | assumption | (simp [cg_ok]; omega)) rfl hvX2_isReadAllowed rfl ⟨rfl, rfl, Nat.le_of_ble_eq_true rfl, Nat.le_of_ble_eq_true rfl⟩ (Nat.le_of_ble_eq_true rfl) rfl ?_
          refine cr_if_eq (pc := 51) (tgt := 56) C dX3_syncsForRead_51 (by decide) (fun h51 => ?_) (fun h51 => ?_)
          · have e3 := cg_bf h51
            refine cr_iinc3 (pc := 56) (v := nI 6) C dX3_syncsForRead_56 (by decide) (by decide) rfl ?_
            refine cr_goto (pc := 59) (tgt := 23) C dX3_syncsForRead_59 (by decide) ?_
            refine cr_iload_n (pc := 23) C dX3_syncsForRead_23 rfl ?_
            refine cr_bipush (pc := 24) (v := nI 8) C dX3_syncsForRead_24 (by decide) ?_
            refine cr_icmp_ge_f (pc := 26) (tgt := 62) C dX3_syncsForRead_26 (by decide) (by decide) ?_
            refine cr_iload_n (pc := 29) C dX3_syncsForRead_29 rfl ?_
            refine cr_iload_n (pc := 30) C dX3_syncsForRead_30 rfl ?_
            refine cr_dS (pc := 31) C (sp_contains (by decide) (by decide)) rfl gX3_syncsForRead_X3_contains rfl dX3_syncsForRead_31 hsX3_contains rfl ⟨rfl, rfl, Nat.le_of_ble_eq_true rfl, Nat.le_of_ble_eq_true rfl⟩ (Nat.le_of_ble_eq_true rfl) rfl ?_
            refine cr_if_ne_t (pc := 34) (tgt := 56) C dX3_syncsForRead_34 (by decide) (by decide) ?_
            refine cr_iinc3 (pc := 56) (v := nI 7) C dX3_syncsForRead_56 (by decide) (by decide) rfl ?_
            refine cr_goto (pc := 59) (tgt := 23) C dX3_syncsForRead_59 (by decide) ?_
            refine cr_iload_n (pc := 23) C dX3_syncsForRead_23 rfl ?_
            refine cr_bipush (pc := 24) (v := nI 8) C dX3_syncsForRead_24 (by decide) ?_
            refine cr_icmp_ge_f (pc := 26) (tgt := 62) C dX3_syncsForRead_26 (by decide) (by decide) ?_
            refine cr_iload_n (pc := 29) C dX3_syncsForRead_29 rfl ?_
            refine cr_iload_n (pc := 30) C dX3_syncsForRead_30 rfl ?_
            refine cr_dS (pc := 31) C (sp_contains (by decide) (by decide)) rfl gX3_syncsForRead_X3_contains rfl dX3_syncsForRead_31 hsX3_contains rfl ⟨rfl, rfl, Nat.le_of_ble_eq_true rfl, Nat.le_of_ble_eq_true rfl⟩ (Nat.le_of_ble_eq_true rfl) rfl ?_
            refine cr_if_ne_t (pc := 34) (tgt := 56) C dX3_syncsForRead_34 (by decide) (by decide) ?_
            refine cr_iinc3 (pc := 56) (v := nI 8) C dX3_syncsForRead_56 (by decide) (by decide) rfl ?_
            refine cr_goto (pc := 59) (tgt := 23) C dX3_syncsForRead_59 (by decide) ?_
            refine cr_iload_n (pc := 23) C dX3_syncsForRead_23 rfl ?_
            refine cr_bipush (pc := 24) (v := nI 8) C dX3_syncsForRead_24 (by decide) ?_
            refine cr_icmp_ge_t (pc := 26) (tgt := 62) C dX3_syncsForRead_26 (by decide) (by decide) ?_
            refine cr_iconst (pc := 62) (v := (-1)) C dX3_syncsForRead_62 (by decide) ?_
            refine cr_ireturn (pc := 63) C X dX3_syncsForRead_63 ?_
            exact ⟨by unfold cg_sf cg_s4; simp [*], cg_sb_id M 0⟩
          · have e3 := cg_bt h51
            refine cr_iload_n (pc := 54) C dX3_syncsForRead_54 rfl ?_
            refine cr_ireturn (pc := 55) C X dX3_syncsForRead_55 ?_
            exact ⟨by unfold cg_sf cg_s4; simp [*], cg_sb_id M 0⟩
        · have e2 := cg_bt h51
          refine cr_iload_n (pc := 54) C dX3_syncsForRead_54 rfl ?_
          refine cr_ireturn (pc := 55) C X dX3_syncsForRead_55 ?_
          exact ⟨by unfold cg_sf cg_s4; simp [*], cg_sb_id M 0⟩
      · have e1 := cg_bt h51
        refine cr_iload_n (pc := 54) C dX3_syncsForRead_54 rfl ?_
        refine cr_ireturn (pc := 55) C X dX3_syncsForRead_55 ?_
        exact ⟨by unfold cg_sf cg_s4; simp [*], cg_sb_id M 0⟩
    · have e0 := cg_bt h51
      refine cr_iload_n (pc := 54) C dX3_syncsForRead_54 rfl ?_
      refine cr_ireturn (pc := 55) C X dX3_syncsForRead_55 ?_
      exact ⟨by unfold cg_sf cg_s4; simp [*], cg_sb_id M 0⟩
  · refine cg_S_of (cc := cX3_syncsForRead) (maxL := 4) (ret := (some .int)) (ls0 := [some (.inr (.inr (3, 0, 0, 0))), some (.inl (nI c)), some (.inl (nI 2)), none]) RX3 rfl (by decide) rfl rfl (Nat.le_of_ble_eq_true rfl) (fun E C X => ?_)
    refine cr_iload_n (pc := 0) C dX3_syncsForRead_0 rfl ?_
    refine cr_dS (pc := 1) C (sp_isClient1 hc) rfl gX3_syncsForRead_X3_isClient rfl dX3_syncsForRead_1 hsX3_isClient rfl ⟨rfl, rfl, Nat.le_of_ble_eq_true rfl, Nat.le_of_ble_eq_true rfl⟩ (Nat.le_of_ble_eq_true rfl) rfl ?_
    refine cr_if_eq_f (pc := 4) (tgt := 14) C dX3_syncsForRead_4 (by decide) (by decide) ?_
    refine cr_iload_n (pc := 7) C dX3_syncsForRead_7 rfl ?_
    refine cr_dS (pc := 8) C (sp_isReplica1 (by decide)) rfl gX3_syncsForRead_X3_isReplica rfl dX3_syncsForRead_8 hsX3_isReplica rfl ⟨rfl, rfl, Nat.le_of_ble_eq_true rfl, Nat.le_of_ble_eq_true rfl⟩ (Nat.le_of_ble_eq_true rfl) rfl ?_
    refine cr_if_ne_t (pc := 11) (tgt := 21) C dX3_syncsForRead_11 (by decide) (by decide) ?_
    refine cr_mem (cg_sb_id M 0).symm ?_
    refine cr_iconst (pc := 21) (v := nI 0) C dX3_syncsForRead_21 (by decide) ?_
    refine cr_istore_n3 (pc := 22) C dX3_syncsForRead_22 (by decide) rfl ?_
    refine cr_iload_n (pc := 23) C dX3_syncsForRead_23 rfl ?_
    refine cr_bipush (pc := 24) (v := nI 8) C dX3_syncsForRead_24 (by decide) ?_
    refine cr_icmp_ge_f (pc := 26) (tgt := 62) C dX3_syncsForRead_26 (by decide) (by decide) ?_
    refine cr_iload_n (pc := 29) C dX3_syncsForRead_29 rfl ?_
    refine cr_iload_n (pc := 30) C dX3_syncsForRead_30 rfl ?_
    refine cr_dS (pc := 31) C (sp_contains (by decide) (by decide)) rfl gX3_syncsForRead_X3_contains rfl dX3_syncsForRead_31 hsX3_contains rfl ⟨rfl, rfl, Nat.le_of_ble_eq_true rfl, Nat.le_of_ble_eq_true rfl⟩ (Nat.le_of_ble_eq_true rfl) rfl ?_
    refine cr_if_ne_f (pc := 34) (tgt := 56) C dX3_syncsForRead_34 (by decide) (by decide) ?_
    refine cr_aload_n (pc := 37) C dX3_syncsForRead_37 rfl ?_
    refine cr_getr (pc := 38) (c := 3) (k := 0) C (by first | rfl | assumption | (simp [cg_ok]; omega)) rfl (by decide) rfl inX3_syncsForRead_X3 flX3_syncsForRead_12 dX3_syncsForRead_38 ?_
    refine cr_iload_n (pc := 41) C dX3_syncsForRead_41 rfl ?_
    refine cr_iload_n (pc := 42) C dX3_syncsForRead_42 rfl ?_
    refine cr_iload_n (pc := 43) C dX3_syncsForRead_43 rfl ?_
    refine cr_dS (pc := 44) C (sp_only (by decide)) rfl gX3_syncsForRead_X3_only rfl dX3_syncsForRead_44 hsX3_only rfl ⟨rfl, rfl, Nat.le_of_ble_eq_true rfl, Nat.le_of_ble_eq_true rfl⟩ (Nat.le_of_ble_eq_true rfl) rfl ?_
    refine cr_ior (pc := 47) C dX3_syncsForRead_47 ?_
    refine cr_top (show nI 0 ||| nI (2 ^ 2) = nI 4 by decide) ?_
    refine cr_dV (pc := 48) C (sp_rA hc (by decide)) rfl gX3_syncsForRead_X2_isReadAllowed rfl dX3_syncsForRead_48 (by first | rfl | assumption | (simp [cg_ok]; omega)) rfl hvX2_isReadAllowed rfl ⟨rfl, rfl, Nat.le_of_ble_eq_true rfl, Nat.le_of_ble_eq_true rfl⟩ (Nat.le_of_ble_eq_true rfl) rfl ?_
    refine cr_if_eq (pc := 51) (tgt := 56) C dX3_syncsForRead_51 (by decide) (fun h51 => ?_) (fun h51 => ?_)
    · have e0 := cg_bf h51
      refine cr_iinc3 (pc := 56) (v := nI 1) C dX3_syncsForRead_56 (by decide) (by decide) rfl ?_
      refine cr_goto (pc := 59) (tgt := 23) C dX3_syncsForRead_59 (by decide) ?_
      refine cr_iload_n (pc := 23) C dX3_syncsForRead_23 rfl ?_
      refine cr_bipush (pc := 24) (v := nI 8) C dX3_syncsForRead_24 (by decide) ?_
      refine cr_icmp_ge_f (pc := 26) (tgt := 62) C dX3_syncsForRead_26 (by decide) (by decide) ?_
      refine cr_iload_n (pc := 29) C dX3_syncsForRead_29 rfl ?_
      refine cr_iload_n (pc := 30) C dX3_syncsForRead_30 rfl ?_
      refine cr_dS (pc := 31) C (sp_contains (by decide) (by decide)) rfl gX3_syncsForRead_X3_contains rfl dX3_syncsForRead_31 hsX3_contains rfl ⟨rfl, rfl, Nat.le_of_ble_eq_true rfl, Nat.le_of_ble_eq_true rfl⟩ (Nat.le_of_ble_eq_true rfl) rfl ?_
      refine cr_if_ne_f (pc := 34) (tgt := 56) C dX3_syncsForRead_34 (by decide) (by decide) ?_
      refine cr_aload_n (pc := 37) C dX3_syncsForRead_37 rfl ?_
      refine cr_getr (pc := 38) (c := 3) (k := 0) C (by first | rfl | assumption | (simp [cg_ok]; omega)) rfl (by decide) rfl inX3_syncsForRead_X3 flX3_syncsForRead_12 dX3_syncsForRead_38 ?_
      refine cr_iload_n (pc := 41) C dX3_syncsForRead_41 rfl ?_
      refine cr_iload_n (pc := 42) C dX3_syncsForRead_42 rfl ?_
      refine cr_iload_n (pc := 43) C dX3_syncsForRead_43 rfl ?_
      refine cr_dS (pc := 44) C (sp_only (by decide)) rfl gX3_syncsForRead_X3_only rfl dX3_syncsForRead_44 hsX3_only rfl ⟨rfl, rfl, Nat.le_of_ble_eq_true rfl, Nat.le_of_ble_eq_true rfl⟩ (Nat.le_of_ble_eq_true rfl) rfl ?_
      refine cr_ior (pc := 47) C dX3_syncsForRead_47 ?_
      refine cr_top (show nI 1 ||| nI (2 ^ 2) = nI 5 by decide) ?_
      refine cr_dV (pc := 48) C (sp_rA hc (by decide)) rfl gX3_syncsForRead_X2_isReadAllowed rfl dX3_syncsForRead_48 (by first | rfl | assumption | (simp [cg_ok]; omega)) rfl hvX2_isReadAllowed rfl ⟨rfl, rfl, Nat.le_of_ble_eq_true rfl, Nat.le_of_ble_eq_true rfl⟩ (Nat.le_of_ble_eq_true rfl) rfl ?_
      refine cr_if_eq (pc := 51) (tgt := 56) C dX3_syncsForRead_51 (by decide) (fun h51 => ?_) (fun h51 => ?_)
      · have e1 := cg_bf h51
        refine cr_iinc3 (pc := 56) (v := nI 2) C dX3_syncsForRead_56 (by decide) (by decide) rfl ?_
        refine cr_goto (pc := 59) (tgt := 23) C dX3_syncsForRead_59 (by decide) ?_
        refine cr_iload_n (pc := 23) C dX3_syncsForRead_23 rfl ?_
        refine cr_bipush (pc := 24) (v := nI 8) C dX3_syncsForRead_24 (by decide) ?_
        refine cr_icmp_ge_f (pc := 26) (tgt := 62) C dX3_syncsForRead_26 (by decide) (by decide) ?_
        refine cr_iload_n (pc := 29) C dX3_syncsForRead_29 rfl ?_
        refine cr_iload_n (pc := 30) C dX3_syncsForRead_30 rfl ?_
        refine cr_dS (pc := 31) C (sp_contains (by decide) (by decide)) rfl gX3_syncsForRead_X3_contains rfl dX3_syncsForRead_31 hsX3_contains rfl ⟨rfl, rfl, Nat.le_of_ble_eq_true rfl, Nat.le_of_ble_eq_true rfl⟩ (Nat.le_of_ble_eq_true rfl) rfl ?_
        refine cr_if_ne_f (pc := 34) (tgt := 56) C dX3_syncsForRead_34 (by decide) (by decide) ?_
        refine cr_aload_n (pc := 37) C dX3_syncsForRead_37 rfl ?_
        refine cr_getr (pc := 38) (c := 3) (k := 0) C (by first | rfl | assumption | (simp [cg_ok]; omega)) rfl (by decide) rfl inX3_syncsForRead_X3 flX3_syncsForRead_12 dX3_syncsForRead_38 ?_
        refine cr_iload_n (pc := 41) C dX3_syncsForRead_41 rfl ?_
        refine cr_iload_n (pc := 42) C dX3_syncsForRead_42 rfl ?_
        refine cr_iload_n (pc := 43) C dX3_syncsForRead_43 rfl ?_
        refine cr_dS (pc := 44) C (sp_only (by decide)) rfl gX3_syncsForRead_X3_only rfl dX3_syncsForRead_44 hsX3_only rfl ⟨rfl, rfl, Nat.le_of_ble_eq_true rfl, Nat.le_of_ble_eq_true rfl⟩ (Nat.le_of_ble_eq_true rfl) rfl ?_
        refine cr_ior (pc := 47) C dX3_syncsForRead_47 ?_
        refine cr_top (show nI 2 ||| nI (2 ^ 2) = nI 6 by decide) ?_
        refine cr_dV (pc := 48) C (sp_rA hc (by decide)) rfl gX3_syncsForRead_X2_isReadAllowed rfl dX3_syncsForRead_48 (by first | rfl | assumption | (simp [cg_ok]; omega)) rfl hvX2_isReadAllowed rfl ⟨rfl, rfl, Nat.le_of_ble_eq_true rfl, Nat.le_of_ble_eq_true rfl⟩ (Nat.le_of_ble_eq_true rfl) rfl ?_
        refine cr_if_eq (pc := 51) (tgt := 56) C dX3_syncsForRead_51 (by decide) (fun h51 => ?_) (fun h51 => ?_)
        · have e2 := cg_bf h51
          refine cr_iinc3 (pc := 56) (v := nI 3) C dX3_syncsForRead_56 (by decide) (by decide) rfl ?_
          refine cr_goto (pc := 59) (tgt := 23) C dX3_syncsForRead_59 (by decide) ?_
          refine cr_iload_n (pc := 23) C dX3_syncsForRead_23 rfl ?_
          refine cr_bipush (pc := 24) (v := nI 8) C dX3_syncsForRead_24 (by decide) ?_
          refine cr_icmp_ge_f (pc := 26) (tgt := 62) C dX3_syncsForRead_26 (by decide) (by decide) ?_
          refine cr_iload_n (pc := 29) C dX3_syncsForRead_29 rfl ?_
          refine cr_iload_n (pc := 30) C dX3_syncsForRead_30 rfl ?_
          refine cr_dS (pc := 31) C (sp_contains (by decide) (by decide)) rfl gX3_syncsForRead_X3_contains rfl dX3_syncsForRead_31 hsX3_contains rfl ⟨rfl, rfl, Nat.le_of_ble_eq_true rfl, Nat.le_of_ble_eq_true rfl⟩ (Nat.le_of_ble_eq_true rfl) rfl ?_
          refine cr_if_ne_f (pc := 34) (tgt := 56) C dX3_syncsForRead_34 (by decide) (by decide) ?_
          refine cr_aload_n (pc := 37) C dX3_syncsForRead_37 rfl ?_
          refine cr_getr (pc := 38) (c := 3) (k := 0) C (by first | rfl | assumption | (simp [cg_ok]; omega)) rfl (by decide) rfl inX3_syncsForRead_X3 flX3_syncsForRead_12 dX3_syncsForRead_38 ?_
          refine cr_iload_n (pc := 41) C dX3_syncsForRead_41 rfl ?_
          refine cr_iload_n (pc := 42) C dX3_syncsForRead_42 rfl ?_
          refine cr_iload_n (pc := 43) C dX3_syncsForRead_43 rfl ?_
          refine cr_dS (pc := 44) C (sp_only (by decide)) rfl gX3_syncsForRead_X3_only rfl dX3_syncsForRead_44 hsX3_only rfl ⟨rfl, rfl, Nat.le_of_ble_eq_true rfl, Nat.le_of_ble_eq_true rfl⟩ (Nat.le_of_ble_eq_true rfl) rfl ?_
          refine cr_ior (pc := 47) C dX3_syncsForRead_47 ?_
          refine cr_top (show nI 3 ||| nI (2 ^ 2) = nI 7 by decide) ?_
          refine cr_dV (pc := 48) C (sp_rA hc (by decide)) rfl gX3_syncsForRead_X2_isReadAllowed rfl dX3_syncsForRead_48 (by first | rfl | assumption | (simp [cg_ok]; omega)) rfl hvX2_isReadAllowed rfl ⟨rfl, rfl, Nat.le_of_ble_eq_true rfl, Nat.le_of_ble_eq_true rfl⟩ (Nat.le_of_ble_eq_true rfl) rfl ?_
          refine cr_if_eq (pc := 51) (tgt := 56) C dX3_syncsForRead_51 (by decide) (fun h51 => ?_) (fun h51 => ?_)
          · have e3 := cg_bf h51
            refine cr_iinc3 (pc := 56) (v := nI 4) C dX3_syncsForRead_56 (by decide) (by decide) rfl ?_
            refine cr_goto (pc := 59) (tgt := 23) C dX3_syncsForRead_59 (by decide) ?_
            refine cr_iload_n (pc := 23) C dX3_syncsForRead_23 rfl ?_
            refine cr_bipush (pc := 24) (v := nI 8) C dX3_syncsForRead_24 (by decide) ?_
            refine cr_icmp_ge_f (pc := 26) (tgt := 62) C dX3_syncsForRead_26 (by decide) (by decide) ?_
            refine cr_iload_n (pc := 29) C dX3_syncsForRead_29 rfl ?_
            refine cr_iload_n (pc := 30) C dX3_syncsForRead_30 rfl ?_
            refine cr_dS (pc := 31) C (sp_contains (by decide) (by decide)) rfl gX3_syncsForRead_X3_contains rfl dX3_syncsForRead_31 hsX3_contains rfl ⟨rfl, rfl, Nat.le_of_ble_eq_true rfl, Nat.le_of_ble_eq_true rfl⟩ (Nat.le_of_ble_eq_true rfl) rfl ?_
            refine cr_if_ne_t (pc := 34) (tgt := 56) C dX3_syncsForRead_34 (by decide) (by decide) ?_
            refine cr_iinc3 (pc := 56) (v := nI 5) C dX3_syncsForRead_56 (by decide) (by decide) rfl ?_
            refine cr_goto (pc := 59) (tgt := 23) C dX3_syncsForRead_59 (by decide) ?_
            refine cr_iload_n (pc := 23) C dX3_syncsForRead_23 rfl ?_
            refine cr_bipush (pc := 24) (v := nI 8) C dX3_syncsForRead_24 (by decide) ?_
            refine cr_icmp_ge_f (pc := 26) (tgt := 62) C dX3_syncsForRead_26 (by decide) (by decide) ?_
            refine cr_iload_n (pc := 29) C dX3_syncsForRead_29 rfl ?_
            refine cr_iload_n (pc := 30) C dX3_syncsForRead_30 rfl ?_
            refine cr_dS (pc := 31) C (sp_contains (by decide) (by decide)) rfl gX3_syncsForRead_X3_contains rfl dX3_syncsForRead_31 hsX3_contains rfl ⟨rfl, rfl, Nat.le_of_ble_eq_true rfl, Nat.le_of_ble_eq_true rfl⟩ (Nat.le_of_ble_eq_true rfl) rfl ?_
            refine cr_if_ne_t (pc := 34) (tgt := 56) C dX3_syncsForRead_34 (by decide) (by decide) ?_
            refine cr_iinc3 (pc := 56) (v := nI 6) C dX3_syncsForRead_56 (by decide) (by decide) rfl ?_
            refine cr_goto (pc := 59) (tgt := 23) C dX3_syncsForRead_59 (by decide) ?_
            refine cr_iload_n (pc := 23) C dX3_syncsForRead_23 rfl ?_
            refine cr_bipush (pc := 24) (v := nI 8) C dX3_syncsForRead_24 (by decide) ?_
            refine cr_icmp_ge_f (pc := 26) (tgt := 62) C dX3_syncsForRead_26 (by decide) (by decide) ?_
            refine cr_iload_n (pc := 29) C dX3_syncsForRead_29 rfl ?_
            refine cr_iload_n (pc := 30) C dX3_syncsForRead_30 rfl ?_
            refine cr_dS (pc := 31) C (sp_contains (by decide) (by decide)) rfl gX3_syncsForRead_X3_contains rfl dX3_syncsForRead_31 hsX3_contains rfl ⟨rfl, rfl, Nat.le_of_ble_eq_true rfl, Nat.le_of_ble_eq_true rfl⟩ (Nat.le_of_ble_eq_true rfl) rfl ?_
            refine cr_if_ne_t (pc := 34) (tgt := 56) C dX3_syncsForRead_34 (by decide) (by decide) ?_
            refine cr_iinc3 (pc := 56) (v := nI 7) C dX3_syncsForRead_56 (by decide) (by decide) rfl ?_
            refine cr_goto (pc := 59) (tgt := 23) C dX3_syncsForRead_59 (by decide) ?_
            refine cr_iload_n (pc := 23) C dX3_syncsForRead_23 rfl ?_
            refine cr_bipush (pc := 24) (v := nI 8) C dX3_syncsForRead_24 (by decide) ?_
            refine cr_icmp_ge_f (pc := 26) (tgt := 62) C dX3_syncsForRead_26 (by decide) (by decide) ?_
            refine cr_iload_n (pc := 29) C dX3_syncsForRead_29 rfl ?_
            refine cr_iload_n (pc := 30) C dX3_syncsForRead_30 rfl ?_
            refine cr_dS (pc := 31) C (sp_contains (by decide) (by decide)) rfl gX3_syncsForRead_X3_contains rfl dX3_syncsForRead_31 hsX3_contains rfl ⟨rfl, rfl, Nat.le_of_ble_eq_true rfl, Nat.le_of_ble_eq_true rfl⟩ (Nat.le_of_ble_eq_true rfl) rfl ?_
            refine cr_if_ne_t (pc := 34) (tgt := 56) C dX3_syncsForRead_34 (by decide) (by decide) ?_
            refine cr_iinc3 (pc := 56) (v := nI 8) C dX3_syncsForRead_56 (by decide) (by decide) rfl ?_
            refine cr_goto (pc := 59) (tgt := 23) C dX3_syncsForRead_59 (by decide) ?_
            refine cr_iload_n (pc := 23) C dX3_syncsForRead_23 rfl ?_
            refine cr_bipush (pc := 24) (v := nI 8) C dX3_syncsForRead_24 (by decide) ?_
            refine cr_icmp_ge_t (pc := 26) (tgt := 62) C dX3_syncsForRead_26 (by decide) (by decide) ?_
            refine cr_iconst (pc := 62) (v := (-1)) C dX3_syncsForRead_62 (by decide) ?_
            refine cr_ireturn (pc := 63) C X dX3_syncsForRead_63 ?_
            exact ⟨by unfold cg_sf cg_s4; simp [*], cg_sb_id M 0⟩
          · have e3 := cg_bt h51
            refine cr_iload_n (pc := 54) C dX3_syncsForRead_54 rfl ?_
            refine cr_ireturn (pc := 55) C X dX3_syncsForRead_55 ?_
            exact ⟨by unfold cg_sf cg_s4; simp [*], cg_sb_id M 0⟩
        · have e2 := cg_bt h51
          refine cr_iload_n (pc := 54) C dX3_syncsForRead_54 rfl ?_
          refine cr_ireturn (pc := 55) C X dX3_syncsForRead_55 ?_
          exact ⟨by unfold cg_sf cg_s4; simp [*], cg_sb_id M 0⟩
      · have e1 := cg_bt h51
        refine cr_iload_n (pc := 54) C dX3_syncsForRead_54 rfl ?_
        refine cr_ireturn (pc := 55) C X dX3_syncsForRead_55 ?_
        exact ⟨by unfold cg_sf cg_s4; simp [*], cg_sb_id M 0⟩
    · have e0 := cg_bt h51
      refine cr_iload_n (pc := 54) C dX3_syncsForRead_54 rfl ?_
      refine cr_ireturn (pc := 55) C X dX3_syncsForRead_55 ?_
      exact ⟨by unfold cg_sf cg_s4; simp [*], cg_sb_id M 0⟩
set_option maxRecDepth 100000 in
set_option maxHeartbeats 4000000 in
theorem sp_syncsForRead0 {M : cg_M} {x y : Int32} (h : ¬ (cg_in x 4 ∧ cg_in y 3)) : cg_D yX3_syncsForRead wsX3_syncsForRead rmX3_syncsForRead [.inr (.inr (3, 0, 0, 0)), .inl (x), .inl (y)] M (some (.inl (-2))) (cg_err M 0) := by
  rcases Classical.em (cg_in x 4) with ⟨a, h0, rfl⟩ | hx
  · refine cg_S_of (cc := cX3_syncsForRead) (maxL := 4) (ret := (some .int)) (ls0 := [some (.inr (.inr (3, 0, 0, 0))), some (.inl (nI a)), some (.inl (y)), none]) RX3 rfl (by decide) rfl rfl (Nat.le_of_ble_eq_true rfl) (fun E C X => ?_)
    refine cr_iload_n (pc := 0) C dX3_syncsForRead_0 rfl ?_
    refine cr_dS (pc := 1) C (sp_isClient1 h0) rfl gX3_syncsForRead_X3_isClient rfl dX3_syncsForRead_1 hsX3_isClient rfl ⟨rfl, rfl, Nat.le_of_ble_eq_true rfl, Nat.le_of_ble_eq_true rfl⟩ (Nat.le_of_ble_eq_true rfl) rfl ?_
    refine cr_if_eq_f (pc := 4) (tgt := 14) C dX3_syncsForRead_4 (by decide) (by decide) ?_
    refine cr_iload_n (pc := 7) C dX3_syncsForRead_7 rfl ?_
    refine cr_dS (pc := 8) C (sp_isReplica0 (fun q => h ⟨⟨_, h0, rfl⟩, q⟩)) rfl gX3_syncsForRead_X3_isReplica rfl dX3_syncsForRead_8 hsX3_isReplica rfl ⟨rfl, rfl, Nat.le_of_ble_eq_true rfl, Nat.le_of_ble_eq_true rfl⟩ (Nat.le_of_ble_eq_true rfl) rfl ?_
    refine cr_if_ne_f (pc := 11) (tgt := 21) C dX3_syncsForRead_11 (by decide) (by decide) ?_
    refine cr_aload_n (pc := 14) C dX3_syncsForRead_14 rfl ?_
    refine cr_bipush (pc := 15) (v := (-2)) C dX3_syncsForRead_15 (by decide) ?_
    refine cr_dV (pc := 17) C (sp_counted1 (e := 0) (by decide) (by decide) (by decide) (by decide)) rfl gX3_syncsForRead_X3_counted rfl dX3_syncsForRead_17 (by first | rfl | assumption | (simp [cg_ok]; omega)) rfl hvX3_counted rfl ⟨rfl, rfl, Nat.le_of_ble_eq_true rfl, Nat.le_of_ble_eq_true rfl⟩ (Nat.le_of_ble_eq_true rfl) rfl ?_
    refine cr_ireturn (pc := 20) C X dX3_syncsForRead_20 ?_
    exact ⟨rfl, rfl⟩
  · refine cg_S_of (cc := cX3_syncsForRead) (maxL := 4) (ret := (some .int)) (ls0 := [some (.inr (.inr (3, 0, 0, 0))), some (.inl (x)), some (.inl (y)), none]) RX3 rfl (by decide) rfl rfl (Nat.le_of_ble_eq_true rfl) (fun E C X => ?_)
    refine cr_iload_n (pc := 0) C dX3_syncsForRead_0 rfl ?_
    refine cr_dS (pc := 1) C (sp_isClient0 hx) rfl gX3_syncsForRead_X3_isClient rfl dX3_syncsForRead_1 hsX3_isClient rfl ⟨rfl, rfl, Nat.le_of_ble_eq_true rfl, Nat.le_of_ble_eq_true rfl⟩ (Nat.le_of_ble_eq_true rfl) rfl ?_
    refine cr_if_eq_t (pc := 4) (tgt := 14) C dX3_syncsForRead_4 (by decide) (by decide) ?_
    refine cr_aload_n (pc := 14) C dX3_syncsForRead_14 rfl ?_
    refine cr_bipush (pc := 15) (v := (-2)) C dX3_syncsForRead_15 (by decide) ?_
    refine cr_dV (pc := 17) C (sp_counted1 (e := 0) (by decide) (by decide) (by decide) (by decide)) rfl gX3_syncsForRead_X3_counted rfl dX3_syncsForRead_17 (by first | rfl | assumption | (simp [cg_ok]; omega)) rfl hvX3_counted rfl ⟨rfl, rfl, Nat.le_of_ble_eq_true rfl, Nat.le_of_ble_eq_true rfl⟩ (Nat.le_of_ble_eq_true rfl) rfl ?_
    refine cr_ireturn (pc := 20) C X dX3_syncsForRead_20 ?_
    exact ⟨rfl, rfl⟩
set_option maxRecDepth 100000 in
set_option maxHeartbeats 4000000 in
theorem sp_peek1 {M : cg_M} {r k : Nat} {n : Nat} (hr : r < 3) (hk : k < 4) (hI : cg_Iw (M 0) n) (hv : ¬ cg_vl (M 0) r k n = nI 100) : cg_D yX3_peek wsX3_peek rmX3_peek [.inr (.inr (3, 0, 0, 0)), .inl (nI r), .inl (nI k)] M (some (.inl (cg_vl (M 0) r k n))) (M) := by
  refine cg_S_of (cc := cX3_peek) (maxL := 4) (ret := (some .int)) (ls0 := [some (.inr (.inr (3, 0, 0, 0))), some (.inl (nI r)), some (.inl (nI k)), none]) RX3 rfl (by decide) rfl rfl (Nat.le_of_ble_eq_true rfl) (fun E C X => ?_)
  refine cr_iload_n (pc := 0) C dX3_peek_0 rfl ?_
  refine cr_dS (pc := 1) C (sp_isReplica1 hr) rfl gX3_peek_X3_isReplica rfl dX3_peek_1 hsX3_isReplica rfl ⟨rfl, rfl, Nat.le_of_ble_eq_true rfl, Nat.le_of_ble_eq_true rfl⟩ (Nat.le_of_ble_eq_true rfl) rfl ?_
  refine cr_if_eq_f (pc := 4) (tgt := 14) C dX3_peek_4 (by decide) (by decide) ?_
  refine cr_iload_n (pc := 7) C dX3_peek_7 rfl ?_
  refine cr_dS (pc := 8) C (sp_isKey1 hk) rfl gX3_peek_X3_isKey rfl dX3_peek_8 hsX3_isKey rfl ⟨rfl, rfl, Nat.le_of_ble_eq_true rfl, Nat.le_of_ble_eq_true rfl⟩ (Nat.le_of_ble_eq_true rfl) rfl ?_
  refine cr_if_ne_t (pc := 11) (tgt := 21) C dX3_peek_11 (by decide) (by decide) ?_
  refine cr_mem (cg_sb_id M 0).symm ?_
  refine cr_aload_n (pc := 21) C dX3_peek_21 rfl ?_
  refine cr_getr (pc := 22) (c := 3) (k := 0) C (by first | rfl | assumption | (simp [cg_ok]; omega)) rfl (by decide) rfl inX3_peek_X3 flX3_peek_12 dX3_peek_22 ?_
  refine cr_iload_n (pc := 25) C dX3_peek_25 rfl ?_
  refine cr_iload_n (pc := 26) C dX3_peek_26 rfl ?_
  refine cr_dV (pc := 27) C (sp_valueAt hr hI) rfl gX3_peek_X2_valueAt rfl dX3_peek_27 (by first | rfl | assumption | (simp [cg_ok]; omega)) rfl hvX2_valueAt rfl ⟨rfl, rfl, Nat.le_of_ble_eq_true rfl, Nat.le_of_ble_eq_true rfl⟩ (Nat.le_of_ble_eq_true rfl) rfl ?_
  refine cr_istore_n3 (pc := 30) C dX3_peek_30 (by decide) rfl ?_
  refine cr_iload_n (pc := 31) C dX3_peek_31 rfl ?_
  refine cr_bipush (pc := 32) (v := nI 100) C dX3_peek_32 (by decide) ?_
  refine cr_icmp_ne_t (pc := 34) (tgt := 46) C dX3_peek_34 (by decide) hv ?_
  refine cr_iload_n (pc := 46) C dX3_peek_46 rfl ?_
  refine cr_ireturn (pc := 47) C X dX3_peek_47 ?_
  exact ⟨rfl, cg_sb_id M 0⟩
set_option maxRecDepth 100000 in
set_option maxHeartbeats 4000000 in
theorem sp_peek5 {M : cg_M} {r k n : Nat} (hr : r < 3) (hk : k < 4) (hI : cg_Iw (M 0) n) (hv : cg_vl (M 0) r k n = nI 100) : cg_D yX3_peek wsX3_peek rmX3_peek [.inr (.inr (3, 0, 0, 0)), .inl (nI r), .inl (nI k)] M (some (.inl (-5))) (cg_err M 3) := by
  refine cg_S_of (cc := cX3_peek) (maxL := 4) (ret := (some .int)) (ls0 := [some (.inr (.inr (3, 0, 0, 0))), some (.inl (nI r)), some (.inl (nI k)), none]) RX3 rfl (by decide) rfl rfl (Nat.le_of_ble_eq_true rfl) (fun E C X => ?_)
  refine cr_iload_n (pc := 0) C dX3_peek_0 rfl ?_
  refine cr_dS (pc := 1) C (sp_isReplica1 hr) rfl gX3_peek_X3_isReplica rfl dX3_peek_1 hsX3_isReplica rfl ⟨rfl, rfl, Nat.le_of_ble_eq_true rfl, Nat.le_of_ble_eq_true rfl⟩ (Nat.le_of_ble_eq_true rfl) rfl ?_
  refine cr_if_eq_f (pc := 4) (tgt := 14) C dX3_peek_4 (by decide) (by decide) ?_
  refine cr_iload_n (pc := 7) C dX3_peek_7 rfl ?_
  refine cr_dS (pc := 8) C (sp_isKey1 hk) rfl gX3_peek_X3_isKey rfl dX3_peek_8 hsX3_isKey rfl ⟨rfl, rfl, Nat.le_of_ble_eq_true rfl, Nat.le_of_ble_eq_true rfl⟩ (Nat.le_of_ble_eq_true rfl) rfl ?_
  refine cr_if_ne_t (pc := 11) (tgt := 21) C dX3_peek_11 (by decide) (by decide) ?_
  refine cr_mem (cg_sb_id M 0).symm ?_
  refine cr_aload_n (pc := 21) C dX3_peek_21 rfl ?_
  refine cr_getr (pc := 22) (c := 3) (k := 0) C (by first | rfl | assumption | (simp [cg_ok]; omega)) rfl (by decide) rfl inX3_peek_X3 flX3_peek_12 dX3_peek_22 ?_
  refine cr_iload_n (pc := 25) C dX3_peek_25 rfl ?_
  refine cr_iload_n (pc := 26) C dX3_peek_26 rfl ?_
  refine cr_dV (pc := 27) C (sp_valueAt hr hI) rfl gX3_peek_X2_valueAt rfl dX3_peek_27 (by first | rfl | assumption | (simp [cg_ok]; omega)) rfl hvX2_valueAt rfl ⟨rfl, rfl, Nat.le_of_ble_eq_true rfl, Nat.le_of_ble_eq_true rfl⟩ (Nat.le_of_ble_eq_true rfl) rfl ?_
  refine cr_istore_n3 (pc := 30) C dX3_peek_30 (by decide) rfl ?_
  refine cr_iload_n (pc := 31) C dX3_peek_31 rfl ?_
  refine cr_bipush (pc := 32) (v := nI 100) C dX3_peek_32 (by decide) ?_
  refine cr_icmp_ne_f (pc := 34) (tgt := 46) C dX3_peek_34 (by decide) hv ?_
  refine cr_mem (cg_sb_id M 0) ?_
  refine cr_aload_n (pc := 37) C dX3_peek_37 rfl ?_
  refine cr_bipush (pc := 38) (v := (-5)) C dX3_peek_38 (by decide) ?_
  refine cr_dV (pc := 40) C (sp_counted1 (e := 3) (by decide) (by decide) (by decide) (by decide)) rfl gX3_peek_X3_counted rfl dX3_peek_40 (by first | rfl | assumption | (simp [cg_ok]; omega)) rfl hvX3_counted rfl ⟨rfl, rfl, Nat.le_of_ble_eq_true rfl, Nat.le_of_ble_eq_true rfl⟩ (Nat.le_of_ble_eq_true rfl) rfl ?_
  refine cr_goto (pc := 43) (tgt := 47) C dX3_peek_43 (by decide) ?_
  refine cr_ireturn (pc := 47) C X dX3_peek_47 ?_
  exact ⟨rfl, rfl⟩
set_option maxRecDepth 100000 in
set_option maxHeartbeats 4000000 in
theorem sp_peek0 {M : cg_M} {x y : Int32} (h : ¬ (cg_in x 3 ∧ cg_in y 4)) : cg_D yX3_peek wsX3_peek rmX3_peek [.inr (.inr (3, 0, 0, 0)), .inl (x), .inl (y)] M (some (.inl (-2))) (cg_err M 0) := by
  rcases Classical.em (cg_in x 3) with ⟨a, h0, rfl⟩ | hx
  · refine cg_S_of (cc := cX3_peek) (maxL := 4) (ret := (some .int)) (ls0 := [some (.inr (.inr (3, 0, 0, 0))), some (.inl (nI a)), some (.inl (y)), none]) RX3 rfl (by decide) rfl rfl (Nat.le_of_ble_eq_true rfl) (fun E C X => ?_)
    refine cr_iload_n (pc := 0) C dX3_peek_0 rfl ?_
    refine cr_dS (pc := 1) C (sp_isReplica1 h0) rfl gX3_peek_X3_isReplica rfl dX3_peek_1 hsX3_isReplica rfl ⟨rfl, rfl, Nat.le_of_ble_eq_true rfl, Nat.le_of_ble_eq_true rfl⟩ (Nat.le_of_ble_eq_true rfl) rfl ?_
    refine cr_if_eq_f (pc := 4) (tgt := 14) C dX3_peek_4 (by decide) (by decide) ?_
    refine cr_iload_n (pc := 7) C dX3_peek_7 rfl ?_
    refine cr_dS (pc := 8) C (sp_isKey0 (fun q => h ⟨⟨_, h0, rfl⟩, q⟩)) rfl gX3_peek_X3_isKey rfl dX3_peek_8 hsX3_isKey rfl ⟨rfl, rfl, Nat.le_of_ble_eq_true rfl, Nat.le_of_ble_eq_true rfl⟩ (Nat.le_of_ble_eq_true rfl) rfl ?_
    refine cr_if_ne_f (pc := 11) (tgt := 21) C dX3_peek_11 (by decide) (by decide) ?_
    refine cr_aload_n (pc := 14) C dX3_peek_14 rfl ?_
    refine cr_bipush (pc := 15) (v := (-2)) C dX3_peek_15 (by decide) ?_
    refine cr_dV (pc := 17) C (sp_counted1 (e := 0) (by decide) (by decide) (by decide) (by decide)) rfl gX3_peek_X3_counted rfl dX3_peek_17 (by first | rfl | assumption | (simp [cg_ok]; omega)) rfl hvX3_counted rfl ⟨rfl, rfl, Nat.le_of_ble_eq_true rfl, Nat.le_of_ble_eq_true rfl⟩ (Nat.le_of_ble_eq_true rfl) rfl ?_
    refine cr_ireturn (pc := 20) C X dX3_peek_20 ?_
    exact ⟨rfl, rfl⟩
  · refine cg_S_of (cc := cX3_peek) (maxL := 4) (ret := (some .int)) (ls0 := [some (.inr (.inr (3, 0, 0, 0))), some (.inl (x)), some (.inl (y)), none]) RX3 rfl (by decide) rfl rfl (Nat.le_of_ble_eq_true rfl) (fun E C X => ?_)
    refine cr_iload_n (pc := 0) C dX3_peek_0 rfl ?_
    refine cr_dS (pc := 1) C (sp_isReplica0 hx) rfl gX3_peek_X3_isReplica rfl dX3_peek_1 hsX3_isReplica rfl ⟨rfl, rfl, Nat.le_of_ble_eq_true rfl, Nat.le_of_ble_eq_true rfl⟩ (Nat.le_of_ble_eq_true rfl) rfl ?_
    refine cr_if_eq_t (pc := 4) (tgt := 14) C dX3_peek_4 (by decide) (by decide) ?_
    refine cr_aload_n (pc := 14) C dX3_peek_14 rfl ?_
    refine cr_bipush (pc := 15) (v := (-2)) C dX3_peek_15 (by decide) ?_
    refine cr_dV (pc := 17) C (sp_counted1 (e := 0) (by decide) (by decide) (by decide) (by decide)) rfl gX3_peek_X3_counted rfl dX3_peek_17 (by first | rfl | assumption | (simp [cg_ok]; omega)) rfl hvX3_counted rfl ⟨rfl, rfl, Nat.le_of_ble_eq_true rfl, Nat.le_of_ble_eq_true rfl⟩ (Nat.le_of_ble_eq_true rfl) rfl ?_
    refine cr_ireturn (pc := 20) C X dX3_peek_20 ?_
    exact ⟨rfl, rfl⟩
set_option maxRecDepth 100000 in
set_option maxHeartbeats 4000000 in
theorem sp_compare1 {M : cg_M} {a b : Nat}  (ha : a < 3) (hb : b < 3)  : cg_D yX3_compare wsX3_compare rmX3_compare [.inr (.inr (3, 0, 0, 0)), .inl (nI a), .inl (nI b)] M (some (.inl (cg_cmp (cg_cs (M 0) (2 ^ a) (3 * b)) (cg_cs (M 0) (2 ^ b) (3 * a))))) (M) := by
  cases h1 : cg_cs (M 0) (2 ^ a) (3 * b) <;> cases h2 : cg_cs (M 0) (2 ^ b) (3 * a)
  · refine cg_S_of (cc := cX3_compare) (maxL := 5) (ret := (some .int)) (ls0 := [some (.inr (.inr (3, 0, 0, 0))), some (.inl (nI a)), some (.inl (nI b)), none, none]) RX3 rfl (by decide) rfl rfl (Nat.le_of_ble_eq_true rfl) (fun E C X => ?_)
    refine cr_iload_n (pc := 0) C dX3_compare_0 rfl ?_
    refine cr_dS (pc := 1) C (sp_isReplica1 ha) rfl gX3_compare_X3_isReplica rfl dX3_compare_1 hsX3_isReplica rfl ⟨rfl, rfl, Nat.le_of_ble_eq_true rfl, Nat.le_of_ble_eq_true rfl⟩ (Nat.le_of_ble_eq_true rfl) rfl ?_
    refine cr_if_eq_f (pc := 4) (tgt := 14) C dX3_compare_4 (by decide) (by decide) ?_
    refine cr_iload_n (pc := 7) C dX3_compare_7 rfl ?_
    refine cr_dS (pc := 8) C (sp_isReplica1 hb) rfl gX3_compare_X3_isReplica rfl dX3_compare_8 hsX3_isReplica rfl ⟨rfl, rfl, Nat.le_of_ble_eq_true rfl, Nat.le_of_ble_eq_true rfl⟩ (Nat.le_of_ble_eq_true rfl) rfl ?_
    refine cr_if_ne_t (pc := 11) (tgt := 21) C dX3_compare_11 (by decide) (by decide) ?_
    refine cr_mem (cg_sb_id M 0).symm ?_
    refine cr_aload_n (pc := 21) C dX3_compare_21 rfl ?_
    refine cr_getr (pc := 22) (c := 3) (k := 0) C (by first | rfl | assumption | (simp [cg_ok]; omega)) rfl (by decide) rfl inX3_compare_X3 flX3_compare_12 dX3_compare_22 ?_
    refine cr_iload_n (pc := 25) C dX3_compare_25 rfl ?_
    refine cr_dS (pc := 26) C (sp_only ha) rfl gX3_compare_X3_only rfl dX3_compare_26 hsX3_only rfl ⟨rfl, rfl, Nat.le_of_ble_eq_true rfl, Nat.le_of_ble_eq_true rfl⟩ (Nat.le_of_ble_eq_true rfl) rfl ?_
    refine cr_aload_n (pc := 29) C dX3_compare_29 rfl ?_
    refine cr_getr (pc := 30) (c := 3) (k := 0) C (by first | rfl | assumption | (simp [cg_ok]; omega)) rfl (by decide) rfl inX3_compare_X3 flX3_compare_12 dX3_compare_30 ?_
    refine cr_getr (pc := 33) (c := 2) (k := 6) C (by first | rfl | assumption | (simp [cg_ok]; omega)) rfl (by decide) rfl inX3_compare_X2 flX3_compare_96 dX3_compare_33 ?_
    refine cr_iload_n (pc := 36) C dX3_compare_36 rfl ?_
    refine cr_aaload (pc := 37) C rfl (by first | rfl | assumption | (simp [cg_ok]; omega)) (by omega) (by first | decide | omega) dX3_compare_37 ?_
    refine cr_dV (pc := 38) C (sp_covers (cg_two3 ha) (by simp [cg_ok]; omega) rfl) rfl gX3_compare_X2_covers rfl dX3_compare_38 (by first | rfl | assumption | (simp [cg_ok]; omega)) rfl hvX2_covers rfl ⟨rfl, rfl, Nat.le_of_ble_eq_true rfl, Nat.le_of_ble_eq_true rfl⟩ (Nat.le_of_ble_eq_true rfl) rfl ?_
    rw [h1]
    refine cr_istore_n3 (pc := 41) C dX3_compare_41 (by decide) rfl ?_
    refine cr_aload_n (pc := 42) C dX3_compare_42 rfl ?_
    refine cr_getr (pc := 43) (c := 3) (k := 0) C (by first | rfl | assumption | (simp [cg_ok]; omega)) rfl (by decide) rfl inX3_compare_X3 flX3_compare_12 dX3_compare_43 ?_
    refine cr_iload_n (pc := 46) C dX3_compare_46 rfl ?_
    refine cr_dS (pc := 47) C (sp_only hb) rfl gX3_compare_X3_only rfl dX3_compare_47 hsX3_only rfl ⟨rfl, rfl, Nat.le_of_ble_eq_true rfl, Nat.le_of_ble_eq_true rfl⟩ (Nat.le_of_ble_eq_true rfl) rfl ?_
    refine cr_aload_n (pc := 50) C dX3_compare_50 rfl ?_
    refine cr_getr (pc := 51) (c := 3) (k := 0) C (by first | rfl | assumption | (simp [cg_ok]; omega)) rfl (by decide) rfl inX3_compare_X3 flX3_compare_12 dX3_compare_51 ?_
    refine cr_getr (pc := 54) (c := 2) (k := 6) C (by first | rfl | assumption | (simp [cg_ok]; omega)) rfl (by decide) rfl inX3_compare_X2 flX3_compare_96 dX3_compare_54 ?_
    refine cr_iload_n (pc := 57) C dX3_compare_57 rfl ?_
    refine cr_aaload (pc := 58) C rfl (by first | rfl | assumption | (simp [cg_ok]; omega)) (by omega) (by first | decide | omega) dX3_compare_58 ?_
    refine cr_dV (pc := 59) C (sp_covers (cg_two3 hb) (by simp [cg_ok]; omega) rfl) rfl gX3_compare_X2_covers rfl dX3_compare_59 (by first | rfl | assumption | (simp [cg_ok]; omega)) rfl hvX2_covers rfl ⟨rfl, rfl, Nat.le_of_ble_eq_true rfl, Nat.le_of_ble_eq_true rfl⟩ (Nat.le_of_ble_eq_true rfl) rfl ?_
    rw [h2]
    refine cr_istore4 (pc := 62) C dX3_compare_62 (by decide) rfl ?_
    refine cr_iload_n (pc := 64) C dX3_compare_64 rfl ?_
    refine cr_if_eq_t (pc := 65) (tgt := 79) C dX3_compare_65 (by decide) (by decide) ?_
    refine cr_iload (pc := 79) C dX3_compare_79 rfl ?_
    refine cr_if_eq_t (pc := 81) (tgt := 88) C dX3_compare_81 (by decide) (by decide) ?_
    refine cr_iconst (pc := 88) (v := nI 3) C dX3_compare_88 (by decide) ?_
    refine cr_ireturn (pc := 89) C X dX3_compare_89 ?_
    exact ⟨rfl, cg_sb_id M 0⟩
  · refine cg_S_of (cc := cX3_compare) (maxL := 5) (ret := (some .int)) (ls0 := [some (.inr (.inr (3, 0, 0, 0))), some (.inl (nI a)), some (.inl (nI b)), none, none]) RX3 rfl (by decide) rfl rfl (Nat.le_of_ble_eq_true rfl) (fun E C X => ?_)
    refine cr_iload_n (pc := 0) C dX3_compare_0 rfl ?_
    refine cr_dS (pc := 1) C (sp_isReplica1 ha) rfl gX3_compare_X3_isReplica rfl dX3_compare_1 hsX3_isReplica rfl ⟨rfl, rfl, Nat.le_of_ble_eq_true rfl, Nat.le_of_ble_eq_true rfl⟩ (Nat.le_of_ble_eq_true rfl) rfl ?_
    refine cr_if_eq_f (pc := 4) (tgt := 14) C dX3_compare_4 (by decide) (by decide) ?_
    refine cr_iload_n (pc := 7) C dX3_compare_7 rfl ?_
    refine cr_dS (pc := 8) C (sp_isReplica1 hb) rfl gX3_compare_X3_isReplica rfl dX3_compare_8 hsX3_isReplica rfl ⟨rfl, rfl, Nat.le_of_ble_eq_true rfl, Nat.le_of_ble_eq_true rfl⟩ (Nat.le_of_ble_eq_true rfl) rfl ?_
    refine cr_if_ne_t (pc := 11) (tgt := 21) C dX3_compare_11 (by decide) (by decide) ?_
    refine cr_mem (cg_sb_id M 0).symm ?_
    refine cr_aload_n (pc := 21) C dX3_compare_21 rfl ?_
    refine cr_getr (pc := 22) (c := 3) (k := 0) C (by first | rfl | assumption | (simp [cg_ok]; omega)) rfl (by decide) rfl inX3_compare_X3 flX3_compare_12 dX3_compare_22 ?_
    refine cr_iload_n (pc := 25) C dX3_compare_25 rfl ?_
    refine cr_dS (pc := 26) C (sp_only ha) rfl gX3_compare_X3_only rfl dX3_compare_26 hsX3_only rfl ⟨rfl, rfl, Nat.le_of_ble_eq_true rfl, Nat.le_of_ble_eq_true rfl⟩ (Nat.le_of_ble_eq_true rfl) rfl ?_
    refine cr_aload_n (pc := 29) C dX3_compare_29 rfl ?_
    refine cr_getr (pc := 30) (c := 3) (k := 0) C (by first | rfl | assumption | (simp [cg_ok]; omega)) rfl (by decide) rfl inX3_compare_X3 flX3_compare_12 dX3_compare_30 ?_
    refine cr_getr (pc := 33) (c := 2) (k := 6) C (by first | rfl | assumption | (simp [cg_ok]; omega)) rfl (by decide) rfl inX3_compare_X2 flX3_compare_96 dX3_compare_33 ?_
    refine cr_iload_n (pc := 36) C dX3_compare_36 rfl ?_
    refine cr_aaload (pc := 37) C rfl (by first | rfl | assumption | (simp [cg_ok]; omega)) (by omega) (by first | decide | omega) dX3_compare_37 ?_
    refine cr_dV (pc := 38) C (sp_covers (cg_two3 ha) (by simp [cg_ok]; omega) rfl) rfl gX3_compare_X2_covers rfl dX3_compare_38 (by first | rfl | assumption | (simp [cg_ok]; omega)) rfl hvX2_covers rfl ⟨rfl, rfl, Nat.le_of_ble_eq_true rfl, Nat.le_of_ble_eq_true rfl⟩ (Nat.le_of_ble_eq_true rfl) rfl ?_
    rw [h1]
    refine cr_istore_n3 (pc := 41) C dX3_compare_41 (by decide) rfl ?_
    refine cr_aload_n (pc := 42) C dX3_compare_42 rfl ?_
    refine cr_getr (pc := 43) (c := 3) (k := 0) C (by first | rfl | assumption | (simp [cg_ok]; omega)) rfl (by decide) rfl inX3_compare_X3 flX3_compare_12 dX3_compare_43 ?_
    refine cr_iload_n (pc := 46) C dX3_compare_46 rfl ?_
    refine cr_dS (pc := 47) C (sp_only hb) rfl gX3_compare_X3_only rfl dX3_compare_47 hsX3_only rfl ⟨rfl, rfl, Nat.le_of_ble_eq_true rfl, Nat.le_of_ble_eq_true rfl⟩ (Nat.le_of_ble_eq_true rfl) rfl ?_
    refine cr_aload_n (pc := 50) C dX3_compare_50 rfl ?_
    refine cr_getr (pc := 51) (c := 3) (k := 0) C (by first | rfl | assumption | (simp [cg_ok]; omega)) rfl (by decide) rfl inX3_compare_X3 flX3_compare_12 dX3_compare_51 ?_
    refine cr_getr (pc := 54) (c := 2) (k := 6) C (by first | rfl | assumption | (simp [cg_ok]; omega)) rfl (by decide) rfl inX3_compare_X2 flX3_compare_96 dX3_compare_54 ?_
    refine cr_iload_n (pc := 57) C dX3_compare_57 rfl ?_
    refine cr_aaload (pc := 58) C rfl (by first | rfl | assumption | (simp [cg_ok]; omega)) (by omega) (by first | decide | omega) dX3_compare_58 ?_
    refine cr_dV (pc := 59) C (sp_covers (cg_two3 hb) (by simp [cg_ok]; omega) rfl) rfl gX3_compare_X2_covers rfl dX3_compare_59 (by first | rfl | assumption | (simp [cg_ok]; omega)) rfl hvX2_covers rfl ⟨rfl, rfl, Nat.le_of_ble_eq_true rfl, Nat.le_of_ble_eq_true rfl⟩ (Nat.le_of_ble_eq_true rfl) rfl ?_
    rw [h2]
    refine cr_istore4 (pc := 62) C dX3_compare_62 (by decide) rfl ?_
    refine cr_iload_n (pc := 64) C dX3_compare_64 rfl ?_
    refine cr_if_eq_t (pc := 65) (tgt := 79) C dX3_compare_65 (by decide) (by decide) ?_
    refine cr_iload (pc := 79) C dX3_compare_79 rfl ?_
    refine cr_if_eq_f (pc := 81) (tgt := 88) C dX3_compare_81 (by decide) (by decide) ?_
    refine cr_iconst (pc := 84) (v := nI 2) C dX3_compare_84 (by decide) ?_
    refine cr_goto (pc := 85) (tgt := 89) C dX3_compare_85 (by decide) ?_
    refine cr_ireturn (pc := 89) C X dX3_compare_89 ?_
    exact ⟨rfl, cg_sb_id M 0⟩
  · refine cg_S_of (cc := cX3_compare) (maxL := 5) (ret := (some .int)) (ls0 := [some (.inr (.inr (3, 0, 0, 0))), some (.inl (nI a)), some (.inl (nI b)), none, none]) RX3 rfl (by decide) rfl rfl (Nat.le_of_ble_eq_true rfl) (fun E C X => ?_)
    refine cr_iload_n (pc := 0) C dX3_compare_0 rfl ?_
    refine cr_dS (pc := 1) C (sp_isReplica1 ha) rfl gX3_compare_X3_isReplica rfl dX3_compare_1 hsX3_isReplica rfl ⟨rfl, rfl, Nat.le_of_ble_eq_true rfl, Nat.le_of_ble_eq_true rfl⟩ (Nat.le_of_ble_eq_true rfl) rfl ?_
    refine cr_if_eq_f (pc := 4) (tgt := 14) C dX3_compare_4 (by decide) (by decide) ?_
    refine cr_iload_n (pc := 7) C dX3_compare_7 rfl ?_
    refine cr_dS (pc := 8) C (sp_isReplica1 hb) rfl gX3_compare_X3_isReplica rfl dX3_compare_8 hsX3_isReplica rfl ⟨rfl, rfl, Nat.le_of_ble_eq_true rfl, Nat.le_of_ble_eq_true rfl⟩ (Nat.le_of_ble_eq_true rfl) rfl ?_
    refine cr_if_ne_t (pc := 11) (tgt := 21) C dX3_compare_11 (by decide) (by decide) ?_
    refine cr_mem (cg_sb_id M 0).symm ?_
    refine cr_aload_n (pc := 21) C dX3_compare_21 rfl ?_
    refine cr_getr (pc := 22) (c := 3) (k := 0) C (by first | rfl | assumption | (simp [cg_ok]; omega)) rfl (by decide) rfl inX3_compare_X3 flX3_compare_12 dX3_compare_22 ?_
    refine cr_iload_n (pc := 25) C dX3_compare_25 rfl ?_
    refine cr_dS (pc := 26) C (sp_only ha) rfl gX3_compare_X3_only rfl dX3_compare_26 hsX3_only rfl ⟨rfl, rfl, Nat.le_of_ble_eq_true rfl, Nat.le_of_ble_eq_true rfl⟩ (Nat.le_of_ble_eq_true rfl) rfl ?_
    refine cr_aload_n (pc := 29) C dX3_compare_29 rfl ?_
    refine cr_getr (pc := 30) (c := 3) (k := 0) C (by first | rfl | assumption | (simp [cg_ok]; omega)) rfl (by decide) rfl inX3_compare_X3 flX3_compare_12 dX3_compare_30 ?_
    refine cr_getr (pc := 33) (c := 2) (k := 6) C (by first | rfl | assumption | (simp [cg_ok]; omega)) rfl (by decide) rfl inX3_compare_X2 flX3_compare_96 dX3_compare_33 ?_
    refine cr_iload_n (pc := 36) C dX3_compare_36 rfl ?_
    refine cr_aaload (pc := 37) C rfl (by first | rfl | assumption | (simp [cg_ok]; omega)) (by omega) (by first | decide | omega) dX3_compare_37 ?_
    refine cr_dV (pc := 38) C (sp_covers (cg_two3 ha) (by simp [cg_ok]; omega) rfl) rfl gX3_compare_X2_covers rfl dX3_compare_38 (by first | rfl | assumption | (simp [cg_ok]; omega)) rfl hvX2_covers rfl ⟨rfl, rfl, Nat.le_of_ble_eq_true rfl, Nat.le_of_ble_eq_true rfl⟩ (Nat.le_of_ble_eq_true rfl) rfl ?_
    rw [h1]
    refine cr_istore_n3 (pc := 41) C dX3_compare_41 (by decide) rfl ?_
    refine cr_aload_n (pc := 42) C dX3_compare_42 rfl ?_
    refine cr_getr (pc := 43) (c := 3) (k := 0) C (by first | rfl | assumption | (simp [cg_ok]; omega)) rfl (by decide) rfl inX3_compare_X3 flX3_compare_12 dX3_compare_43 ?_
    refine cr_iload_n (pc := 46) C dX3_compare_46 rfl ?_
    refine cr_dS (pc := 47) C (sp_only hb) rfl gX3_compare_X3_only rfl dX3_compare_47 hsX3_only rfl ⟨rfl, rfl, Nat.le_of_ble_eq_true rfl, Nat.le_of_ble_eq_true rfl⟩ (Nat.le_of_ble_eq_true rfl) rfl ?_
    refine cr_aload_n (pc := 50) C dX3_compare_50 rfl ?_
    refine cr_getr (pc := 51) (c := 3) (k := 0) C (by first | rfl | assumption | (simp [cg_ok]; omega)) rfl (by decide) rfl inX3_compare_X3 flX3_compare_12 dX3_compare_51 ?_
    refine cr_getr (pc := 54) (c := 2) (k := 6) C (by first | rfl | assumption | (simp [cg_ok]; omega)) rfl (by decide) rfl inX3_compare_X2 flX3_compare_96 dX3_compare_54 ?_
    refine cr_iload_n (pc := 57) C dX3_compare_57 rfl ?_
    refine cr_aaload (pc := 58) C rfl (by first | rfl | assumption | (simp [cg_ok]; omega)) (by omega) (by first | decide | omega) dX3_compare_58 ?_
    refine cr_dV (pc := 59) C (sp_covers (cg_two3 hb) (by simp [cg_ok]; omega) rfl) rfl gX3_compare_X2_covers rfl dX3_compare_59 (by first | rfl | assumption | (simp [cg_ok]; omega)) rfl hvX2_covers rfl ⟨rfl, rfl, Nat.le_of_ble_eq_true rfl, Nat.le_of_ble_eq_true rfl⟩ (Nat.le_of_ble_eq_true rfl) rfl ?_
    rw [h2]
    refine cr_istore4 (pc := 62) C dX3_compare_62 (by decide) rfl ?_
    refine cr_iload_n (pc := 64) C dX3_compare_64 rfl ?_
    refine cr_if_eq_f (pc := 65) (tgt := 79) C dX3_compare_65 (by decide) (by decide) ?_
    refine cr_iload (pc := 68) C dX3_compare_68 rfl ?_
    refine cr_if_eq_t (pc := 70) (tgt := 77) C dX3_compare_70 (by decide) (by decide) ?_
    refine cr_iconst (pc := 77) (v := nI 1) C dX3_compare_77 (by decide) ?_
    refine cr_ireturn (pc := 78) C X dX3_compare_78 ?_
    exact ⟨rfl, cg_sb_id M 0⟩
  · refine cg_S_of (cc := cX3_compare) (maxL := 5) (ret := (some .int)) (ls0 := [some (.inr (.inr (3, 0, 0, 0))), some (.inl (nI a)), some (.inl (nI b)), none, none]) RX3 rfl (by decide) rfl rfl (Nat.le_of_ble_eq_true rfl) (fun E C X => ?_)
    refine cr_iload_n (pc := 0) C dX3_compare_0 rfl ?_
    refine cr_dS (pc := 1) C (sp_isReplica1 ha) rfl gX3_compare_X3_isReplica rfl dX3_compare_1 hsX3_isReplica rfl ⟨rfl, rfl, Nat.le_of_ble_eq_true rfl, Nat.le_of_ble_eq_true rfl⟩ (Nat.le_of_ble_eq_true rfl) rfl ?_
    refine cr_if_eq_f (pc := 4) (tgt := 14) C dX3_compare_4 (by decide) (by decide) ?_
    refine cr_iload_n (pc := 7) C dX3_compare_7 rfl ?_
    refine cr_dS (pc := 8) C (sp_isReplica1 hb) rfl gX3_compare_X3_isReplica rfl dX3_compare_8 hsX3_isReplica rfl ⟨rfl, rfl, Nat.le_of_ble_eq_true rfl, Nat.le_of_ble_eq_true rfl⟩ (Nat.le_of_ble_eq_true rfl) rfl ?_
    refine cr_if_ne_t (pc := 11) (tgt := 21) C dX3_compare_11 (by decide) (by decide) ?_
    refine cr_mem (cg_sb_id M 0).symm ?_
    refine cr_aload_n (pc := 21) C dX3_compare_21 rfl ?_
    refine cr_getr (pc := 22) (c := 3) (k := 0) C (by first | rfl | assumption | (simp [cg_ok]; omega)) rfl (by decide) rfl inX3_compare_X3 flX3_compare_12 dX3_compare_22 ?_
    refine cr_iload_n (pc := 25) C dX3_compare_25 rfl ?_
    refine cr_dS (pc := 26) C (sp_only ha) rfl gX3_compare_X3_only rfl dX3_compare_26 hsX3_only rfl ⟨rfl, rfl, Nat.le_of_ble_eq_true rfl, Nat.le_of_ble_eq_true rfl⟩ (Nat.le_of_ble_eq_true rfl) rfl ?_
    refine cr_aload_n (pc := 29) C dX3_compare_29 rfl ?_
    refine cr_getr (pc := 30) (c := 3) (k := 0) C (by first | rfl | assumption | (simp [cg_ok]; omega)) rfl (by decide) rfl inX3_compare_X3 flX3_compare_12 dX3_compare_30 ?_
    refine cr_getr (pc := 33) (c := 2) (k := 6) C (by first | rfl | assumption | (simp [cg_ok]; omega)) rfl (by decide) rfl inX3_compare_X2 flX3_compare_96 dX3_compare_33 ?_
    refine cr_iload_n (pc := 36) C dX3_compare_36 rfl ?_
    refine cr_aaload (pc := 37) C rfl (by first | rfl | assumption | (simp [cg_ok]; omega)) (by omega) (by first | decide | omega) dX3_compare_37 ?_
    refine cr_dV (pc := 38) C (sp_covers (cg_two3 ha) (by simp [cg_ok]; omega) rfl) rfl gX3_compare_X2_covers rfl dX3_compare_38 (by first | rfl | assumption | (simp [cg_ok]; omega)) rfl hvX2_covers rfl ⟨rfl, rfl, Nat.le_of_ble_eq_true rfl, Nat.le_of_ble_eq_true rfl⟩ (Nat.le_of_ble_eq_true rfl) rfl ?_
    rw [h1]
    refine cr_istore_n3 (pc := 41) C dX3_compare_41 (by decide) rfl ?_
    refine cr_aload_n (pc := 42) C dX3_compare_42 rfl ?_
    refine cr_getr (pc := 43) (c := 3) (k := 0) C (by first | rfl | assumption | (simp [cg_ok]; omega)) rfl (by decide) rfl inX3_compare_X3 flX3_compare_12 dX3_compare_43 ?_
    refine cr_iload_n (pc := 46) C dX3_compare_46 rfl ?_
    refine cr_dS (pc := 47) C (sp_only hb) rfl gX3_compare_X3_only rfl dX3_compare_47 hsX3_only rfl ⟨rfl, rfl, Nat.le_of_ble_eq_true rfl, Nat.le_of_ble_eq_true rfl⟩ (Nat.le_of_ble_eq_true rfl) rfl ?_
    refine cr_aload_n (pc := 50) C dX3_compare_50 rfl ?_
    refine cr_getr (pc := 51) (c := 3) (k := 0) C (by first | rfl | assumption | (simp [cg_ok]; omega)) rfl (by decide) rfl inX3_compare_X3 flX3_compare_12 dX3_compare_51 ?_
    refine cr_getr (pc := 54) (c := 2) (k := 6) C (by first | rfl | assumption | (simp [cg_ok]; omega)) rfl (by decide) rfl inX3_compare_X2 flX3_compare_96 dX3_compare_54 ?_
    refine cr_iload_n (pc := 57) C dX3_compare_57 rfl ?_
    refine cr_aaload (pc := 58) C rfl (by first | rfl | assumption | (simp [cg_ok]; omega)) (by omega) (by first | decide | omega) dX3_compare_58 ?_
    refine cr_dV (pc := 59) C (sp_covers (cg_two3 hb) (by simp [cg_ok]; omega) rfl) rfl gX3_compare_X2_covers rfl dX3_compare_59 (by first | rfl | assumption | (simp [cg_ok]; omega)) rfl hvX2_covers rfl ⟨rfl, rfl, Nat.le_of_ble_eq_true rfl, Nat.le_of_ble_eq_true rfl⟩ (Nat.le_of_ble_eq_true rfl) rfl ?_
    rw [h2]
    refine cr_istore4 (pc := 62) C dX3_compare_62 (by decide) rfl ?_
    refine cr_iload_n (pc := 64) C dX3_compare_64 rfl ?_
    refine cr_if_eq_f (pc := 65) (tgt := 79) C dX3_compare_65 (by decide) (by decide) ?_
    refine cr_iload (pc := 68) C dX3_compare_68 rfl ?_
    refine cr_if_eq_f (pc := 70) (tgt := 77) C dX3_compare_70 (by decide) (by decide) ?_
    refine cr_iconst (pc := 73) (v := nI 0) C dX3_compare_73 (by decide) ?_
    refine cr_goto (pc := 74) (tgt := 78) C dX3_compare_74 (by decide) ?_
    refine cr_ireturn (pc := 78) C X dX3_compare_78 ?_
    exact ⟨rfl, cg_sb_id M 0⟩
set_option maxRecDepth 100000 in
set_option maxHeartbeats 4000000 in
theorem sp_compare0 {M : cg_M} {x y : Int32} (h : ¬ (cg_in x 3 ∧ cg_in y 3)) : cg_D yX3_compare wsX3_compare rmX3_compare [.inr (.inr (3, 0, 0, 0)), .inl (x), .inl (y)] M (some (.inl (-2))) (cg_err M 0) := by
  rcases Classical.em (cg_in x 3) with ⟨a, h0, rfl⟩ | hx
  · refine cg_S_of (cc := cX3_compare) (maxL := 5) (ret := (some .int)) (ls0 := [some (.inr (.inr (3, 0, 0, 0))), some (.inl (nI a)), some (.inl (y)), none, none]) RX3 rfl (by decide) rfl rfl (Nat.le_of_ble_eq_true rfl) (fun E C X => ?_)
    refine cr_iload_n (pc := 0) C dX3_compare_0 rfl ?_
    refine cr_dS (pc := 1) C (sp_isReplica1 h0) rfl gX3_compare_X3_isReplica rfl dX3_compare_1 hsX3_isReplica rfl ⟨rfl, rfl, Nat.le_of_ble_eq_true rfl, Nat.le_of_ble_eq_true rfl⟩ (Nat.le_of_ble_eq_true rfl) rfl ?_
    refine cr_if_eq_f (pc := 4) (tgt := 14) C dX3_compare_4 (by decide) (by decide) ?_
    refine cr_iload_n (pc := 7) C dX3_compare_7 rfl ?_
    refine cr_dS (pc := 8) C (sp_isReplica0 (fun q => h ⟨⟨_, h0, rfl⟩, q⟩)) rfl gX3_compare_X3_isReplica rfl dX3_compare_8 hsX3_isReplica rfl ⟨rfl, rfl, Nat.le_of_ble_eq_true rfl, Nat.le_of_ble_eq_true rfl⟩ (Nat.le_of_ble_eq_true rfl) rfl ?_
    refine cr_if_ne_f (pc := 11) (tgt := 21) C dX3_compare_11 (by decide) (by decide) ?_
    refine cr_aload_n (pc := 14) C dX3_compare_14 rfl ?_
    refine cr_bipush (pc := 15) (v := (-2)) C dX3_compare_15 (by decide) ?_
    refine cr_dV (pc := 17) C (sp_counted1 (e := 0) (by decide) (by decide) (by decide) (by decide)) rfl gX3_compare_X3_counted rfl dX3_compare_17 (by first | rfl | assumption | (simp [cg_ok]; omega)) rfl hvX3_counted rfl ⟨rfl, rfl, Nat.le_of_ble_eq_true rfl, Nat.le_of_ble_eq_true rfl⟩ (Nat.le_of_ble_eq_true rfl) rfl ?_
    refine cr_ireturn (pc := 20) C X dX3_compare_20 ?_
    exact ⟨rfl, rfl⟩
  · refine cg_S_of (cc := cX3_compare) (maxL := 5) (ret := (some .int)) (ls0 := [some (.inr (.inr (3, 0, 0, 0))), some (.inl (x)), some (.inl (y)), none, none]) RX3 rfl (by decide) rfl rfl (Nat.le_of_ble_eq_true rfl) (fun E C X => ?_)
    refine cr_iload_n (pc := 0) C dX3_compare_0 rfl ?_
    refine cr_dS (pc := 1) C (sp_isReplica0 hx) rfl gX3_compare_X3_isReplica rfl dX3_compare_1 hsX3_isReplica rfl ⟨rfl, rfl, Nat.le_of_ble_eq_true rfl, Nat.le_of_ble_eq_true rfl⟩ (Nat.le_of_ble_eq_true rfl) rfl ?_
    refine cr_if_eq_t (pc := 4) (tgt := 14) C dX3_compare_4 (by decide) (by decide) ?_
    refine cr_aload_n (pc := 14) C dX3_compare_14 rfl ?_
    refine cr_bipush (pc := 15) (v := (-2)) C dX3_compare_15 (by decide) ?_
    refine cr_dV (pc := 17) C (sp_counted1 (e := 0) (by decide) (by decide) (by decide) (by decide)) rfl gX3_compare_X3_counted rfl dX3_compare_17 (by first | rfl | assumption | (simp [cg_ok]; omega)) rfl hvX3_counted rfl ⟨rfl, rfl, Nat.le_of_ble_eq_true rfl, Nat.le_of_ble_eq_true rfl⟩ (Nat.le_of_ble_eq_true rfl) rfl ?_
    refine cr_ireturn (pc := 20) C X dX3_compare_20 ?_
    exact ⟨rfl, rfl⟩
set_option maxRecDepth 100000 in
set_option maxHeartbeats 4000000 in
theorem sp_digest {M : cg_M} {n : Nat} (hI : cg_Iw (M 0) n) : cg_D yX3_digest wsX3_digest rmX3_digest [.inr (.inr (3, 0, 0, 0))] M (some (.inr (.inl (cg_h0 (cg_h0 (cg_hs (M 0) n (cg_mxh 2647 (fun j => M 15 j) 5)) (M 13 1)) (M 14 2))))) (M) := by
  refine cg_S_of (cc := cX3_digest) (maxL := 3) (ret := (some .long)) (ls0 := [some (.inr (.inr (3, 0, 0, 0))), none, none]) RX3 rfl (by decide) rfl rfl (Nat.le_of_ble_eq_true rfl) (fun E C X => ?_)
  refine cr_ldc2 (pc := 0) C dX3_digest_0 klX3_digest_154 ?_
  refine cr_aload_n (pc := 3) C dX3_digest_3 rfl ?_
  refine cr_getr (pc := 4) (c := 3) (k := 3) C (by first | rfl | assumption | (simp [cg_ok]; omega)) rfl (by decide) rfl inX3_digest_X3 flX3_digest_30 dX3_digest_4 ?_
  refine cr_dS (pc := 7) C (sp_mixAll (by rfl) rfl (by decide)) rfl gX3_digest_X3_mixAll rfl dX3_digest_7 hsX3_mixAll rfl ⟨rfl, rfl, Nat.le_of_ble_eq_true rfl, Nat.le_of_ble_eq_true rfl⟩ (Nat.le_of_ble_eq_true rfl) rfl ?_
  refine cr_lstore_n1 (pc := 10) C dX3_digest_10 (by decide) rfl ?_
  refine cr_mem (cg_sb_id M 0).symm ?_
  refine cr_aload_n (pc := 11) C dX3_digest_11 rfl ?_
  refine cr_getr (pc := 12) (c := 3) (k := 0) C (by first | rfl | assumption | (simp [cg_ok]; omega)) rfl (by decide) rfl inX3_digest_X3 flX3_digest_12 dX3_digest_12 ?_
  refine cr_lload_n (pc := 15) C dX3_digest_15 rfl ?_
  refine cr_dV (pc := 16) C (sp_mixInto hI) rfl gX3_digest_X2_mixInto rfl dX3_digest_16 (by first | rfl | assumption | (simp [cg_ok]; omega)) rfl hvX2_mixInto rfl ⟨rfl, rfl, Nat.le_of_ble_eq_true rfl, Nat.le_of_ble_eq_true rfl⟩ (Nat.le_of_ble_eq_true rfl) rfl ?_
  refine cr_lstore_n1 (pc := 19) C dX3_digest_19 (by decide) rfl ?_
  refine cr_mem (cg_sb_id M 0) ?_
  refine cr_lload_n (pc := 20) C dX3_digest_20 rfl ?_
  refine cr_aload_n (pc := 21) C dX3_digest_21 rfl ?_
  refine cr_getr (pc := 22) (c := 3) (k := 2) C (by first | rfl | assumption | (simp [cg_ok]; omega)) rfl (by decide) rfl inX3_digest_X3 flX3_digest_26 dX3_digest_22 ?_
  refine cr_geti (pc := 25) (c := 1) (k := 1) C (by first | rfl | assumption | (simp [cg_ok]; omega)) rfl (by decide) rfl rfl inX3_digest_X1 flX3_digest_121 dX3_digest_25 ?_
  refine cr_dS (pc := 28) C (sp_mix) rfl gX3_digest_X3_mix rfl dX3_digest_28 hsX3_mix rfl ⟨rfl, rfl, Nat.le_of_ble_eq_true rfl, Nat.le_of_ble_eq_true rfl⟩ (Nat.le_of_ble_eq_true rfl) rfl ?_
  refine cr_lstore_n1 (pc := 31) C dX3_digest_31 (by decide) rfl ?_
  refine cr_lload_n (pc := 32) C dX3_digest_32 rfl ?_
  refine cr_aload_n (pc := 33) C dX3_digest_33 rfl ?_
  refine cr_getr (pc := 34) (c := 3) (k := 1) C (by first | rfl | assumption | (simp [cg_ok]; omega)) rfl (by decide) rfl inX3_digest_X3 flX3_digest_19 dX3_digest_34 ?_
  refine cr_geti (pc := 37) (c := 0) (k := 2) C (by first | rfl | assumption | (simp [cg_ok]; omega)) rfl (by decide) rfl rfl inX3_digest_X0 flX3_digest_145 dX3_digest_37 ?_
  refine cr_dS (pc := 40) C (sp_mix) rfl gX3_digest_X3_mix rfl dX3_digest_40 hsX3_mix rfl ⟨rfl, rfl, Nat.le_of_ble_eq_true rfl, Nat.le_of_ble_eq_true rfl⟩ (Nat.le_of_ble_eq_true rfl) rfl ?_
  refine cr_lreturn (pc := 43) C X dX3_digest_43 ?_
  exact ⟨rfl, rfl⟩
