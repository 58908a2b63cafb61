/-! ===== leaves ===== -/
set_option maxRecDepth 100000 in
set_option maxHeartbeats 4000000 in
theorem sp_isBelow1 {M : cg_M} {k n : Nat} (h : k < n) (hn : n < 2147483648) : cg_D yX3_isBelow wsX3_isBelow rmX3_isBelow [.inl (nI k), .inl (nI n)] M (some (.inl (nI 1))) (M) := by
  refine cg_S_of (cc := cX3_isBelow) (maxL := 2) (ret := (some .boolean)) (ls0 := [some (.inl (nI k)), some (.inl (nI n))]) RX3 rfl (by decide) rfl rfl (Nat.le_of_ble_eq_true rfl) (fun E C X => ?_)
  refine cr_iload_n (pc := 0) C dX3_isBelow_0 rfl ?_
  refine cr_if_lt_f (pc := 1) (tgt := 13) C dX3_isBelow_1 (by decide) (nI_pos (by omega)) ?_
  refine cr_iload_n (pc := 4) C dX3_isBelow_4 rfl ?_
  refine cr_iload_n (pc := 5) C dX3_isBelow_5 rfl ?_
  refine cr_icmp_ge_f (pc := 6) (tgt := 13) C dX3_isBelow_6 (by decide) (nI_ge h (by omega)) ?_
  refine cr_iconst (pc := 9) (v := nI 1) C dX3_isBelow_9 (by decide) ?_
  refine cr_goto (pc := 10) (tgt := 14) C dX3_isBelow_10 (by decide) ?_
  refine cr_zreturn (pc := 14) C X dX3_isBelow_14 (by first | exact Or.inr rfl | exact Or.inl rfl | assumption) ?_
  exact ⟨rfl, rfl⟩
set_option maxRecDepth 100000 in
set_option maxHeartbeats 4000000 in
theorem sp_isBelow0 {M : cg_M} {x : Int32} {n : Nat} (h : ¬ cg_in x n) (hn : n < 2147483648) : cg_D yX3_isBelow wsX3_isBelow rmX3_isBelow [.inl (x), .inl (nI n)] M (some (.inl (nI 0))) (M) := by
  refine cg_S_of (cc := cX3_isBelow) (maxL := 2) (ret := (some .boolean)) (ls0 := [some (.inl (x)), some (.inl (nI n))]) RX3 rfl (by decide) rfl rfl (Nat.le_of_ble_eq_true rfl) (fun E C X => ?_)
  refine cr_iload_n (pc := 0) C dX3_isBelow_0 rfl ?_
  refine cr_if_lt (pc := 1) (tgt := 13) C dX3_isBelow_1 (by decide) (fun h1 => ?_) (fun h1 => ?_)
  · refine cr_iconst (pc := 13) (v := nI 0) C dX3_isBelow_13 (by decide) ?_
    refine cr_zreturn (pc := 14) C X dX3_isBelow_14 (by first | exact Or.inr rfl | exact Or.inl rfl | assumption) ?_
    exact ⟨rfl, rfl⟩
  · refine cr_iload_n (pc := 4) C dX3_isBelow_4 rfl ?_
    refine cr_iload_n (pc := 5) C dX3_isBelow_5 rfl ?_
    refine cr_icmp_ge_t (pc := 6) (tgt := 13) C dX3_isBelow_6 (by decide) (cg_nin h hn h1) ?_
    refine cr_iconst (pc := 13) (v := nI 0) C dX3_isBelow_13 (by decide) ?_
    refine cr_zreturn (pc := 14) C X dX3_isBelow_14 (by first | exact Or.inr rfl | exact Or.inl rfl | assumption) ?_
    exact ⟨rfl, rfl⟩
set_option maxRecDepth 100000 in
set_option maxHeartbeats 4000000 in
theorem sp_isClient1 {M : cg_M} {k : Nat} (h : k < 4) : cg_D yX3_isClient wsX3_isClient rmX3_isClient [.inl (nI k)] M (some (.inl (nI 1))) (M) := by
  refine cg_S_of (cc := cX3_isClient) (maxL := 1) (ret := (some .boolean)) (ls0 := [some (.inl (nI k))]) RX3 rfl (by decide) rfl rfl (Nat.le_of_ble_eq_true rfl) (fun E C X => ?_)
  refine cr_iload_n (pc := 0) C dX3_isClient_0 rfl ?_
  refine cr_iconst (pc := 1) (v := nI 4) C dX3_isClient_1 (by decide) ?_
  refine cr_dS (pc := 2) C (sp_isBelow1 h (by decide)) rfl gX3_isClient_X3_isBelow rfl dX3_isClient_2 hsX3_isBelow rfl ⟨rfl, rfl, Nat.le_of_ble_eq_true rfl, Nat.le_of_ble_eq_true rfl⟩ (Nat.le_of_ble_eq_true rfl) rfl ?_
  refine cr_zreturn (pc := 5) C X dX3_isClient_5 (by first | exact Or.inr rfl | exact Or.inl rfl | assumption) ?_
  exact ⟨rfl, rfl⟩
set_option maxRecDepth 100000 in
set_option maxHeartbeats 4000000 in
theorem sp_isClient0 {M : cg_M} {x : Int32} (h : ¬ cg_in x 4) : cg_D yX3_isClient wsX3_isClient rmX3_isClient [.inl (x)] M (some (.inl (nI 0))) (M) := by
  refine cg_S_of (cc := cX3_isClient) (maxL := 1) (ret := (some .boolean)) (ls0 := [some (.inl (x))]) RX3 rfl (by decide) rfl rfl (Nat.le_of_ble_eq_true rfl) (fun E C X => ?_)
  refine cr_iload_n (pc := 0) C dX3_isClient_0 rfl ?_
  refine cr_iconst (pc := 1) (v := nI 4) C dX3_isClient_1 (by decide) ?_
  refine cr_dS (pc := 2) C (sp_isBelow0 h (by decide)) rfl gX3_isClient_X3_isBelow rfl dX3_isClient_2 hsX3_isBelow rfl ⟨rfl, rfl, Nat.le_of_ble_eq_true rfl, Nat.le_of_ble_eq_true rfl⟩ (Nat.le_of_ble_eq_true rfl) rfl ?_
  refine cr_zreturn (pc := 5) C X dX3_isClient_5 (by first | exact Or.inr rfl | exact Or.inl rfl | assumption) ?_
  exact ⟨rfl, rfl⟩
set_option maxRecDepth 100000 in
set_option maxHeartbeats 4000000 in
theorem sp_isReplica1 {M : cg_M} {k : Nat} (h : k < 3) : cg_D yX3_isReplica wsX3_isReplica rmX3_isReplica [.inl (nI k)] M (some (.inl (nI 1))) (M) := by
  refine cg_S_of (cc := cX3_isReplica) (maxL := 1) (ret := (some .boolean)) (ls0 := [some (.inl (nI k))]) RX3 rfl (by decide) rfl rfl (Nat.le_of_ble_eq_true rfl) (fun E C X => ?_)
  refine cr_iload_n (pc := 0) C dX3_isReplica_0 rfl ?_
  refine cr_iconst (pc := 1) (v := nI 3) C dX3_isReplica_1 (by decide) ?_
  refine cr_dS (pc := 2) C (sp_isBelow1 h (by decide)) rfl gX3_isReplica_X3_isBelow rfl dX3_isReplica_2 hsX3_isBelow rfl ⟨rfl, rfl, Nat.le_of_ble_eq_true rfl, Nat.le_of_ble_eq_true rfl⟩ (Nat.le_of_ble_eq_true rfl) rfl ?_
  refine cr_zreturn (pc := 5) C X dX3_isReplica_5 (by first | exact Or.inr rfl | exact Or.inl rfl | assumption) ?_
  exact ⟨rfl, rfl⟩
set_option maxRecDepth 100000 in
set_option maxHeartbeats 4000000 in
theorem sp_isReplica0 {M : cg_M} {x : Int32} (h : ¬ cg_in x 3) : cg_D yX3_isReplica wsX3_isReplica rmX3_isReplica [.inl (x)] M (some (.inl (nI 0))) (M) := by
  refine cg_S_of (cc := cX3_isReplica) (maxL := 1) (ret := (some .boolean)) (ls0 := [some (.inl (x))]) RX3 rfl (by decide) rfl rfl (Nat.le_of_ble_eq_true rfl) (fun E C X => ?_)
  refine cr_iload_n (pc := 0) C dX3_isReplica_0 rfl ?_
  refine cr_iconst (pc := 1) (v := nI 3) C dX3_isReplica_1 (by decide) ?_
  refine cr_dS (pc := 2) C (sp_isBelow0 h (by decide)) rfl gX3_isReplica_X3_isBelow rfl dX3_isReplica_2 hsX3_isBelow rfl ⟨rfl, rfl, Nat.le_of_ble_eq_true rfl, Nat.le_of_ble_eq_true rfl⟩ (Nat.le_of_ble_eq_true rfl) rfl ?_
  refine cr_zreturn (pc := 5) C X dX3_isReplica_5 (by first | exact Or.inr rfl | exact Or.inl rfl | assumption) ?_
  exact ⟨rfl, rfl⟩
set_option maxRecDepth 100000 in
set_option maxHeartbeats 4000000 in
theorem sp_isKey1 {M : cg_M} {k : Nat} (h : k < 4) : cg_D yX3_isKey wsX3_isKey rmX3_isKey [.inl (nI k)] M (some (.inl (nI 1))) (M) := by
  refine cg_S_of (cc := cX3_isKey) (maxL := 1) (ret := (some .boolean)) (ls0 := [some (.inl (nI k))]) RX3 rfl (by decide) rfl rfl (Nat.le_of_ble_eq_true rfl) (fun E C X => ?_)
  refine cr_iload_n (pc := 0) C dX3_isKey_0 rfl ?_
  refine cr_iconst (pc := 1) (v := nI 4) C dX3_isKey_1 (by decide) ?_
  refine cr_dS (pc := 2) C (sp_isBelow1 h (by decide)) rfl gX3_isKey_X3_isBelow rfl dX3_isKey_2 hsX3_isBelow rfl ⟨rfl, rfl, Nat.le_of_ble_eq_true rfl, Nat.le_of_ble_eq_true rfl⟩ (Nat.le_of_ble_eq_true rfl) rfl ?_
  refine cr_zreturn (pc := 5) C X dX3_isKey_5 (by first | exact Or.inr rfl | exact Or.inl rfl | assumption) ?_
  exact ⟨rfl, rfl⟩
set_option maxRecDepth 100000 in
set_option maxHeartbeats 4000000 in
theorem sp_isKey0 {M : cg_M} {x : Int32} (h : ¬ cg_in x 4) : cg_D yX3_isKey wsX3_isKey rmX3_isKey [.inl (x)] M (some (.inl (nI 0))) (M) := by
  refine cg_S_of (cc := cX3_isKey) (maxL := 1) (ret := (some .boolean)) (ls0 := [some (.inl (x))]) RX3 rfl (by decide) rfl rfl (Nat.le_of_ble_eq_true rfl) (fun E C X => ?_)
  refine cr_iload_n (pc := 0) C dX3_isKey_0 rfl ?_
  refine cr_iconst (pc := 1) (v := nI 4) C dX3_isKey_1 (by decide) ?_
  refine cr_dS (pc := 2) C (sp_isBelow0 h (by decide)) rfl gX3_isKey_X3_isBelow rfl dX3_isKey_2 hsX3_isBelow rfl ⟨rfl, rfl, Nat.le_of_ble_eq_true rfl, Nat.le_of_ble_eq_true rfl⟩ (Nat.le_of_ble_eq_true rfl) rfl ?_
  refine cr_zreturn (pc := 5) C X dX3_isKey_5 (by first | exact Or.inr rfl | exact Or.inl rfl | assumption) ?_
  exact ⟨rfl, rfl⟩
set_option maxRecDepth 100000 in
set_option maxHeartbeats 4000000 in
theorem sp_only {M : cg_M} {r : Nat} (h : r < 3) : cg_D yX3_only wsX3_only rmX3_only [.inl (nI r)] M (some (.inl (nI (2 ^ r)))) (M) := by
  refine cg_S_of (cc := cX3_only) (maxL := 1) (ret := (some .int)) (ls0 := [some (.inl (nI r))]) RX3 rfl (by decide) rfl rfl (Nat.le_of_ble_eq_true rfl) (fun E C X => ?_)
  refine cr_iconst (pc := 0) (v := nI 1) C dX3_only_0 (by decide) ?_
  refine cr_iload_n (pc := 1) C dX3_only_1 rfl ?_
  refine cr_ishl (pc := 2) C dX3_only_2 ?_
  refine cr_ireturn (pc := 3) C X dX3_only_3 ?_
  exact ⟨by rw [cg_only r h], rfl⟩
set_option maxRecDepth 100000 in
set_option maxHeartbeats 4000000 in
theorem sp_contains {M : cg_M} {s m : Nat} (hs : s < 16) (hm : m < 4) : cg_D yX3_contains wsX3_contains rmX3_contains [.inl (nI s), .inl (nI m)] M (some (.inl (cg_b (Nat.testBit s m)))) M := by
  have hb := cg_bitc s hs m hm
  cases h : Nat.testBit s m
  · refine cg_S_of (cc := cX3_contains) (maxL := 2) (ret := (some .boolean)) (ls0 := [some (.inl (nI s)), some (.inl (nI m))]) RX3 rfl (by decide) rfl rfl (Nat.le_of_ble_eq_true rfl) (fun E C X => ?_)
    refine cr_iload_n (pc := 0) C dX3_contains_0 rfl ?_
    refine cr_iload_n (pc := 1) C dX3_contains_1 rfl ?_
    refine cr_ishr (pc := 2) C dX3_contains_2 ?_
    refine cr_iconst (pc := 3) (v := nI 1) C dX3_contains_3 (by decide) ?_
    refine cr_iand (pc := 4) C dX3_contains_4 ?_
    refine cr_if_eq_t (pc := 5) (tgt := 12) C dX3_contains_5 (by decide) (by rw [hb, h]; decide) ?_
    refine cr_iconst (pc := 12) (v := nI 0) C dX3_contains_12 (by decide) ?_
    refine cr_zreturn (pc := 13) C X dX3_contains_13 (by first | exact Or.inr rfl | exact Or.inl rfl | assumption) ?_
    exact ⟨rfl, rfl⟩
  · refine cg_S_of (cc := cX3_contains) (maxL := 2) (ret := (some .boolean)) (ls0 := [some (.inl (nI s)), some (.inl (nI m))]) RX3 rfl (by decide) rfl rfl (Nat.le_of_ble_eq_true rfl) (fun E C X => ?_)
    refine cr_iload_n (pc := 0) C dX3_contains_0 rfl ?_
    refine cr_iload_n (pc := 1) C dX3_contains_1 rfl ?_
    refine cr_ishr (pc := 2) C dX3_contains_2 ?_
    refine cr_iconst (pc := 3) (v := nI 1) C dX3_contains_3 (by decide) ?_
    refine cr_iand (pc := 4) C dX3_contains_4 ?_
    refine cr_if_eq_f (pc := 5) (tgt := 12) C dX3_contains_5 (by decide) (by rw [hb, h]; decide) ?_
    refine cr_iconst (pc := 8) (v := nI 1) C dX3_contains_8 (by decide) ?_
    refine cr_goto (pc := 9) (tgt := 13) C dX3_contains_9 (by decide) ?_
    refine cr_zreturn (pc := 13) C X dX3_contains_13 (by first | exact Or.inr rfl | exact Or.inl rfl | assumption) ?_
    exact ⟨rfl, rfl⟩
set_option maxRecDepth 100000 in
set_option maxHeartbeats 4000000 in
theorem sp_isErr1 {M : cg_M} {x : Int32} (h1 : (-6) ≤ x) (h2 : x ≤ (-2)) : cg_D yX3_isErrorCode wsX3_isErrorCode rmX3_isErrorCode [.inl (x)] M (some (.inl (nI 1))) (M) := by
  refine cg_S_of (cc := cX3_isErrorCode) (maxL := 1) (ret := (some .boolean)) (ls0 := [some (.inl (x))]) RX3 rfl (by decide) rfl rfl (Nat.le_of_ble_eq_true rfl) (fun E C X => ?_)
  refine cr_iload_n (pc := 0) C dX3_isErrorCode_0 rfl ?_
  refine cr_bipush (pc := 1) (v := (-6)) C dX3_isErrorCode_1 (by decide) ?_
  refine cr_icmp_lt_f (pc := 3) (tgt := 16) C dX3_isErrorCode_3 (by decide) (Int32.not_lt.mpr h1) ?_
  refine cr_iload_n (pc := 6) C dX3_isErrorCode_6 rfl ?_
  refine cr_bipush (pc := 7) (v := (-2)) C dX3_isErrorCode_7 (by decide) ?_
  refine cr_icmp_gt_f (pc := 9) (tgt := 16) C dX3_isErrorCode_9 (by decide) (Int32.not_lt.mpr h2) ?_
  refine cr_iconst (pc := 12) (v := nI 1) C dX3_isErrorCode_12 (by decide) ?_
  refine cr_goto (pc := 13) (tgt := 17) C dX3_isErrorCode_13 (by decide) ?_
  refine cr_zreturn (pc := 17) C X dX3_isErrorCode_17 (by first | exact Or.inr rfl | exact Or.inl rfl | assumption) ?_
  exact ⟨rfl, rfl⟩
set_option maxRecDepth 100000 in
set_option maxHeartbeats 4000000 in
theorem sp_isErr0 {M : cg_M} {x : Int32} (h : ¬ ((-6) ≤ x ∧ x ≤ (-2))) : cg_D yX3_isErrorCode wsX3_isErrorCode rmX3_isErrorCode [.inl (x)] M (some (.inl (nI 0))) (M) := by
  refine cg_S_of (cc := cX3_isErrorCode) (maxL := 1) (ret := (some .boolean)) (ls0 := [some (.inl (x))]) RX3 rfl (by decide) rfl rfl (Nat.le_of_ble_eq_true rfl) (fun E C X => ?_)
  refine cr_iload_n (pc := 0) C dX3_isErrorCode_0 rfl ?_
  refine cr_bipush (pc := 1) (v := (-6)) C dX3_isErrorCode_1 (by decide) ?_
  refine cr_icmp_lt (pc := 3) (tgt := 16) C dX3_isErrorCode_3 (by decide) (fun h3 => ?_) (fun h3 => ?_)
  · refine cr_iconst (pc := 16) (v := nI 0) C dX3_isErrorCode_16 (by decide) ?_
    refine cr_zreturn (pc := 17) C X dX3_isErrorCode_17 (by first | exact Or.inr rfl | exact Or.inl rfl | assumption) ?_
    exact ⟨rfl, rfl⟩
  · refine cr_iload_n (pc := 6) C dX3_isErrorCode_6 rfl ?_
    refine cr_bipush (pc := 7) (v := (-2)) C dX3_isErrorCode_7 (by decide) ?_
    refine cr_icmp_gt_t (pc := 9) (tgt := 16) C dX3_isErrorCode_9 (by decide) (Int32.not_le.mp (fun q => h ⟨Int32.not_lt.mp h3, q⟩)) ?_
    refine cr_iconst (pc := 16) (v := nI 0) C dX3_isErrorCode_16 (by decide) ?_
    refine cr_zreturn (pc := 17) C X dX3_isErrorCode_17 (by first | exact Or.inr rfl | exact Or.inl rfl | assumption) ?_
    exact ⟨rfl, rfl⟩
set_option maxRecDepth 100000 in
set_option maxHeartbeats 4000000 in
theorem sp_counted0 {M : cg_M} {x : Int32} (h : ¬ ((-6) ≤ x ∧ x ≤ (-2))) : cg_D yX3_counted wsX3_counted rmX3_counted [.inr (.inr (3, 0, 0, 0)), .inl (x)] M (some (.inl x)) (M) := by
  refine cg_S_of (cc := cX3_counted) (maxL := 2) (ret := (some .int)) (ls0 := [some (.inr (.inr (3, 0, 0, 0))), some (.inl (x))]) RX3 rfl (by decide) rfl rfl (Nat.le_of_ble_eq_true rfl) (fun E C X => ?_)
  refine cr_iload_n (pc := 0) C dX3_counted_0 rfl ?_
  refine cr_dS (pc := 1) C (sp_isErr0 h) rfl gX3_counted_X3_isErrorCode rfl dX3_counted_1 hsX3_isErrorCode rfl ⟨rfl, rfl, Nat.le_of_ble_eq_true rfl, Nat.le_of_ble_eq_true rfl⟩ (Nat.le_of_ble_eq_true rfl) rfl ?_
  refine cr_if_eq_t (pc := 4) (tgt := 20) C dX3_counted_4 (by decide) (by decide) ?_
  refine cr_iload_n (pc := 20) C dX3_counted_20 rfl ?_
  refine cr_ireturn (pc := 21) C X dX3_counted_21 ?_
  exact ⟨rfl, rfl⟩
set_option maxRecDepth 100000 in
set_option maxHeartbeats 4000000 in
theorem sp_counted1 {M : cg_M} {x : Int32} {e : Nat} (he : e < 5) (h1 : (-6) ≤ x) (h2 : x ≤ (-2)) (hx : (-2) - x = nI e) : cg_D yX3_counted wsX3_counted rmX3_counted [.inr (.inr (3, 0, 0, 0)), .inl (x)] M (some (.inl x)) (cg_up M 15 e (M 15 e + nI 1)) := by
  refine cg_S_of (cc := cX3_counted) (maxL := 2) (ret := (some .int)) (ls0 := [some (.inr (.inr (3, 0, 0, 0))), some (.inl (x))]) RX3 rfl (by decide) rfl rfl (Nat.le_of_ble_eq_true rfl) (fun E C X => ?_)
  refine cr_iload_n (pc := 0) C dX3_counted_0 rfl ?_
  refine cr_dS (pc := 1) C (sp_isErr1 h1 h2) rfl gX3_counted_X3_isErrorCode rfl dX3_counted_1 hsX3_isErrorCode rfl ⟨rfl, rfl, Nat.le_of_ble_eq_true rfl, Nat.le_of_ble_eq_true rfl⟩ (Nat.le_of_ble_eq_true rfl) rfl ?_
  refine cr_if_eq_f (pc := 4) (tgt := 20) C dX3_counted_4 (by decide) (by decide) ?_
  refine cr_aload_n (pc := 7) C dX3_counted_7 rfl ?_
  refine cr_getr (pc := 8) (c := 3) (k := 3) C (by first | rfl | assumption | (simp [cg_ok]; omega)) rfl (by decide) rfl inX3_counted_X3 flX3_counted_30 dX3_counted_8 ?_
  refine cr_bipush (pc := 11) (v := (-2)) C dX3_counted_11 (by decide) ?_
  refine cr_iload_n (pc := 13) C dX3_counted_13 rfl ?_
  refine cr_isub (pc := 14) C dX3_counted_14 ?_
  rw [hx]
  refine cr_dup2 (pc := 15) C dX3_counted_15 rfl rfl ?_
  refine cr_iaload (pc := 16) C rfl (by first | rfl | assumption | (simp [cg_ok]; omega)) (by omega) (by first | decide | omega) dX3_counted_16 ?_
  refine cr_iconst (pc := 17) (v := nI 1) C dX3_counted_17 (by decide) ?_
  refine cr_iadd (pc := 18) C dX3_counted_18 ?_
  refine cr_iastore (pc := 19) C rfl (by first | rfl | assumption | (simp [cg_ok]; omega)) (by omega) (by first | decide | omega) dX3_counted_19 ?_
  refine cr_iload_n (pc := 20) C dX3_counted_20 rfl ?_
  refine cr_ireturn (pc := 21) C X dX3_counted_21 ?_
  exact ⟨rfl, rfl⟩
set_option maxRecDepth 100000 in
set_option maxHeartbeats 4000000 in
theorem sp_mix {M : cg_M} {h : Int64} {x : Int32} : cg_D yX3_mix wsX3_mix rmX3_mix [.inr (.inl (h)), .inl (x)] M (some (.inr (.inl (cg_h0 h x)))) (M) := by
  refine cg_S_of (cc := cX3_mix) (maxL := 3) (ret := (some .long)) (ls0 := [some (.inr (.inl (h))), none, some (.inl (x))]) RX3 rfl (by decide) rfl rfl (Nat.le_of_ble_eq_true rfl) (fun E C X => ?_)
  refine cr_ldc2 (pc := 0) C dX3_mix_0 klX3_mix_174 ?_
  refine cr_lload_n (pc := 3) C dX3_mix_3 rfl ?_
  refine cr_lmul (pc := 4) C dX3_mix_4 ?_
  refine cr_iload_n (pc := 5) C dX3_mix_5 rfl ?_
  refine cr_i2l (pc := 6) C dX3_mix_6 ?_
  refine cr_ladd (pc := 7) C dX3_mix_7 ?_
  refine cr_lreturn (pc := 8) C X dX3_mix_8 ?_
  exact ⟨rfl, rfl⟩
