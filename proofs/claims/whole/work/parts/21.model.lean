/-! ===== the reference: leaves ===== -/
theorem cg_in64 {x : Int32} {n : Nat} (hn : n < 2147483647) : ((0 : Int64) ≤ x.toInt64 ∧ x.toInt64 ≤ lN n) ↔ cg_in x (n + 1) := by
  rw [Int64.le_iff_toInt_le, Int64.le_iff_toInt_le, Int32.toInt_toInt64, lN_toInt (by omega)]
  constructor
  · rintro ⟨h1, h2⟩
    have h1 : 0 ≤ x.toInt := h1
    obtain ⟨j, hj, e⟩ := vp_in_of (n := n + 1) (vp_in_iff.mpr ⟨h1, by omega⟩) (by omega)
    exact ⟨j, hj, e⟩
  · rintro ⟨k, hk, rfl⟩
    rw [nI_toInt (by omega)]
    exact ⟨by show (0 : Int) ≤ _; omega, by omega⟩
theorem cg_err64 {x : Int32} : ((-6 : Int64) ≤ x.toInt64 ∧ x.toInt64 ≤ -2) ↔ ((-6) ≤ x ∧ x ≤ (-2)) := by
  rw [Int64.le_iff_toInt_le, Int64.le_iff_toInt_le, Int32.le_iff_toInt_le, Int32.le_iff_toInt_le, Int32.toInt_toInt64]
  exact Iff.rfl
def cg_cv (P : Nat → Int32) (a b : Nat) : Bool := decide (P b ≤ P a) && (decide (P (b + 1) ≤ P (a + 1)) && decide (P (b + 2) ≤ P (a + 2)))
theorem cg_mx0 {x : Int32} {n : Nat} (h : cg_in x n) (hn : n < 2147483648) : cg_mx (nI 0) x = x := by
  obtain ⟨k, hk, rfl⟩ := h
  unfold cg_mx
  by_cases e : k = 0
  · subst e; rw [if_neg (by decide)]
  · rw [if_pos (nI_lt (by omega) (by omega))]
theorem cg_gc2 {P : Nat → Int32} {r o : Nat} (hI : cg_I P) (hr : r < 3) (ho : o < 3) : cg_gc P (2 ^ r) o = P (3 * r + o) := by
  obtain ⟨n, g1, g2, g3, -, -⟩ := hI
  have h := g3 r hr o ho
  have hn := g1.1
  unfold cg_gc cg_g1
  rcases (show r = 0 ∨ r = 1 ∨ r = 2 by omega) with rfl | rfl | rfl
  · simp only [show Nat.testBit (2 ^ 0) 0 = true by decide, show Nat.testBit (2 ^ 0) 1 = false by decide, show Nat.testBit (2 ^ 0) 2 = false by decide, if_true]
    simp
    rw [show 3 * 0 + o = o by omega] at h
    exact cg_mx0 h (by omega)
  · simp only [show Nat.testBit (2 ^ 1) 0 = false by decide, show Nat.testBit (2 ^ 1) 1 = true by decide, show Nat.testBit (2 ^ 1) 2 = false by decide, if_true]
    simp
    rw [cg_mx0 h (by omega)]
  · simp only [show Nat.testBit (2 ^ 2) 0 = false by decide, show Nat.testBit (2 ^ 2) 1 = false by decide, show Nat.testBit (2 ^ 2) 2 = true by decide, if_true]
    simp
    rw [cg_mx0 h (by omega)]
theorem cg_cv_cs {P : Nat → Int32} {r p : Nat} (hI : cg_I P) (hr : r < 3) : cg_cv P (3 * r) p = cg_cs P (2 ^ r) p := by
  unfold cg_cv cg_cs
  rw [cg_gc2 hI hr (by decide), cg_gc2 hI hr (by decide), cg_gc2 hI hr (by decide)]
  rfl
theorem cg_b1_eq (P : Nat → Int32) (u g : Nat) : upd P (341 + g) (P (341 + g) + cg_b (Nat.testBit u g)) = cg_b1 u g P := by
  unfold cg_b1
  cases Nat.testBit u g
  · rw [if_neg (by decide)]
    have e : P (341 + g) + cg_b false = P (341 + g) := by
      show P (341 + g) + 0 = _
      simp
    rw [e, cg_uid]
  · rw [if_pos rfl]
    rfl
set_option maxRecDepth 100000 in
set_option maxHeartbeats 4000000 in
theorem sm_in1 {M : cg_M} {v lo hi : Int64} (h1 : lo ≤ v) (h2 : v ≤ hi) : cg_D yX4_in wsX4_in rmX4_in [.inr (.inl (v)), .inr (.inl (lo)), .inr (.inl (hi))] M (some (.inl (nI 1))) (M) := by
  refine cg_S_of (cc := cX4_in) (maxL := 6) (ret := (some .boolean)) (ls0 := [some (.inr (.inl (v))), none, some (.inr (.inl (lo))), none, some (.inr (.inl (hi))), none]) RX4 rfl (by decide) rfl rfl (Nat.le_of_ble_eq_true rfl) (fun E C X => ?_)
  refine cr_lload_n (pc := 0) C dX4_in_0 rfl ?_
  refine cr_lload_n (pc := 1) C dX4_in_1 rfl ?_
  refine cr_lcmp (pc := 2) C dX4_in_2 ?_
  refine cr_if_lt_f (pc := 3) (tgt := 17) C dX4_in_3 (by decide) (fun q => Int64.not_lt.mpr h1 ((lg_cmp_lt _ _).mp q)) ?_
  refine cr_lload_n (pc := 6) C dX4_in_6 rfl ?_
  refine cr_lload (pc := 7) C dX4_in_7 rfl ?_
  refine cr_lcmp (pc := 9) C dX4_in_9 ?_
  refine cr_if_gt_f (pc := 10) (tgt := 17) C dX4_in_10 (by decide) (fun q => Int64.not_lt.mpr h2 ((lg_cmp_gt _ _).mp q)) ?_
  refine cr_iconst (pc := 13) (v := nI 1) C dX4_in_13 (by decide) ?_
  refine cr_goto (pc := 14) (tgt := 18) C dX4_in_14 (by decide) ?_
  refine cr_zreturn (pc := 18) C X dX4_in_18 (by first | exact Or.inr rfl | exact Or.inl rfl | assumption) ?_
  exact ⟨rfl, rfl⟩
set_option maxRecDepth 100000 in
set_option maxHeartbeats 4000000 in
theorem sm_in0 {M : cg_M} {v lo hi : Int64} (h : ¬ (lo ≤ v ∧ v ≤ hi)) : cg_D yX4_in wsX4_in rmX4_in [.inr (.inl (v)), .inr (.inl (lo)), .inr (.inl (hi))] M (some (.inl (nI 0))) (M) := by
  refine cg_S_of (cc := cX4_in) (maxL := 6) (ret := (some .boolean)) (ls0 := [some (.inr (.inl (v))), none, some (.inr (.inl (lo))), none, some (.inr (.inl (hi))), none]) RX4 rfl (by decide) rfl rfl (Nat.le_of_ble_eq_true rfl) (fun E C X => ?_)
  refine cr_lload_n (pc := 0) C dX4_in_0 rfl ?_
  refine cr_lload_n (pc := 1) C dX4_in_1 rfl ?_
  refine cr_lcmp (pc := 2) C dX4_in_2 ?_
  refine cr_if_lt (pc := 3) (tgt := 17) C dX4_in_3 (by decide) (fun h3 => ?_) (fun h3 => ?_)
  · refine cr_iconst (pc := 17) (v := nI 0) C dX4_in_17 (by decide) ?_
    refine cr_zreturn (pc := 18) C X dX4_in_18 (by first | exact Or.inr rfl | exact Or.inl rfl | assumption) ?_
    exact ⟨rfl, rfl⟩
  · refine cr_lload_n (pc := 6) C dX4_in_6 rfl ?_
    refine cr_lload (pc := 7) C dX4_in_7 rfl ?_
    refine cr_lcmp (pc := 9) C dX4_in_9 ?_
    refine cr_if_gt_t (pc := 10) (tgt := 17) C dX4_in_10 (by decide) ((lg_cmp_gt _ _).mpr (Int64.not_le.mp (fun q => h ⟨Int64.not_lt.mp (fun z => h3 ((lg_cmp_lt _ _).mpr z)), q⟩))) ?_
    refine cr_iconst (pc := 17) (v := nI 0) C dX4_in_17 (by decide) ?_
    refine cr_zreturn (pc := 18) C X dX4_in_18 (by first | exact Or.inr rfl | exact Or.inl rfl | assumption) ?_
    exact ⟨rfl, rfl⟩
set_option maxRecDepth 100000 in
set_option maxHeartbeats 4000000 in
theorem sm_isClient1 {M : cg_M} {k : Nat} (h : k < 4) : cg_D yX4_isClient wsX4_isClient rmX4_isClient [.inl (nI k)] M (some (.inl (nI 1))) (M) := by
  have hz := (cg_in64 (n := 3) (by decide)).mpr ⟨k, h, rfl⟩
  refine cg_S_of (cc := cX4_isClient) (maxL := 1) (ret := (some .boolean)) (ls0 := [some (.inl (nI k))]) RX4 rfl (by decide) rfl rfl (Nat.le_of_ble_eq_true rfl) (fun E C X => ?_)
  refine cr_iload_n (pc := 0) C dX4_isClient_0 rfl ?_
  refine cr_i2l (pc := 1) C dX4_isClient_1 ?_
  refine cr_lconst (pc := 2) (v := 0) C dX4_isClient_2 rfl ?_
  refine cr_ldc2 (pc := 3) C dX4_isClient_3 klX4_isClient_39 ?_
  refine cr_dS (pc := 6) C (sm_in1 hz.1 hz.2) rfl gX4_isClient_X4_in rfl dX4_isClient_6 hsX4_in rfl ⟨rfl, rfl, Nat.le_of_ble_eq_true rfl, Nat.le_of_ble_eq_true rfl⟩ (Nat.le_of_ble_eq_true rfl) rfl ?_
  refine cr_zreturn (pc := 9) C X dX4_isClient_9 (by first | exact Or.inr rfl | exact Or.inl rfl | assumption) ?_
  exact ⟨rfl, rfl⟩
set_option maxRecDepth 100000 in
set_option maxHeartbeats 4000000 in
theorem sm_isClient0 {M : cg_M} {x : Int32} (h : ¬ cg_in x 4) : cg_D yX4_isClient wsX4_isClient rmX4_isClient [.inl (x)] M (some (.inl (nI 0))) (M) := by
  refine cg_S_of (cc := cX4_isClient) (maxL := 1) (ret := (some .boolean)) (ls0 := [some (.inl (x))]) RX4 rfl (by decide) rfl rfl (Nat.le_of_ble_eq_true rfl) (fun E C X => ?_)
  refine cr_iload_n (pc := 0) C dX4_isClient_0 rfl ?_
  refine cr_i2l (pc := 1) C dX4_isClient_1 ?_
  refine cr_lconst (pc := 2) (v := 0) C dX4_isClient_2 rfl ?_
  refine cr_ldc2 (pc := 3) C dX4_isClient_3 klX4_isClient_39 ?_
  refine cr_dS (pc := 6) C (sm_in0 (fun q => h ((cg_in64 (n := 3) (by decide)).mp q))) rfl gX4_isClient_X4_in rfl dX4_isClient_6 hsX4_in rfl ⟨rfl, rfl, Nat.le_of_ble_eq_true rfl, Nat.le_of_ble_eq_true rfl⟩ (Nat.le_of_ble_eq_true rfl) rfl ?_
  refine cr_zreturn (pc := 9) C X dX4_isClient_9 (by first | exact Or.inr rfl | exact Or.inl rfl | assumption) ?_
  exact ⟨rfl, rfl⟩
set_option maxRecDepth 100000 in
set_option maxHeartbeats 4000000 in
theorem sm_isReplica1 {M : cg_M} {k : Nat} (h : k < 3) : cg_D yX4_isReplica wsX4_isReplica rmX4_isReplica [.inl (nI k)] M (some (.inl (nI 1))) (M) := by
  have hz := (cg_in64 (n := 2) (by decide)).mpr ⟨k, h, rfl⟩
  refine cg_S_of (cc := cX4_isReplica) (maxL := 1) (ret := (some .boolean)) (ls0 := [some (.inl (nI k))]) RX4 rfl (by decide) rfl rfl (Nat.le_of_ble_eq_true rfl) (fun E C X => ?_)
  refine cr_iload_n (pc := 0) C dX4_isReplica_0 rfl ?_
  refine cr_i2l (pc := 1) C dX4_isReplica_1 ?_
  refine cr_lconst (pc := 2) (v := 0) C dX4_isReplica_2 rfl ?_
  refine cr_ldc2 (pc := 3) C dX4_isReplica_3 klX4_isReplica_45 ?_
  refine cr_dS (pc := 6) C (sm_in1 hz.1 hz.2) rfl gX4_isReplica_X4_in rfl dX4_isReplica_6 hsX4_in rfl ⟨rfl, rfl, Nat.le_of_ble_eq_true rfl, Nat.le_of_ble_eq_true rfl⟩ (Nat.le_of_ble_eq_true rfl) rfl ?_
  refine cr_zreturn (pc := 9) C X dX4_isReplica_9 (by first | exact Or.inr rfl | exact Or.inl rfl | assumption) ?_
  exact ⟨rfl, rfl⟩
set_option maxRecDepth 100000 in
set_option maxHeartbeats 4000000 in
theorem sm_isReplica0 {M : cg_M} {x : Int32} (h : ¬ cg_in x 3) : cg_D yX4_isReplica wsX4_isReplica rmX4_isReplica [.inl (x)] M (some (.inl (nI 0))) (M) := by
  refine cg_S_of (cc := cX4_isReplica) (maxL := 1) (ret := (some .boolean)) (ls0 := [some (.inl (x))]) RX4 rfl (by decide) rfl rfl (Nat.le_of_ble_eq_true rfl) (fun E C X => ?_)
  refine cr_iload_n (pc := 0) C dX4_isReplica_0 rfl ?_
  refine cr_i2l (pc := 1) C dX4_isReplica_1 ?_
  refine cr_lconst (pc := 2) (v := 0) C dX4_isReplica_2 rfl ?_
  refine cr_ldc2 (pc := 3) C dX4_isReplica_3 klX4_isReplica_45 ?_
  refine cr_dS (pc := 6) C (sm_in0 (fun q => h ((cg_in64 (n := 2) (by decide)).mp q))) rfl gX4_isReplica_X4_in rfl dX4_isReplica_6 hsX4_in rfl ⟨rfl, rfl, Nat.le_of_ble_eq_true rfl, Nat.le_of_ble_eq_true rfl⟩ (Nat.le_of_ble_eq_true rfl) rfl ?_
  refine cr_zreturn (pc := 9) C X dX4_isReplica_9 (by first | exact Or.inr rfl | exact Or.inl rfl | assumption) ?_
  exact ⟨rfl, rfl⟩
set_option maxRecDepth 100000 in
set_option maxHeartbeats 4000000 in
theorem sm_isKey1 {M : cg_M} {k : Nat} (h : k < 4) : cg_D yX4_isKey wsX4_isKey rmX4_isKey [.inl (nI k)] M (some (.inl (nI 1))) (M) := by
  have hz := (cg_in64 (n := 3) (by decide)).mpr ⟨k, h, rfl⟩
  refine cg_S_of (cc := cX4_isKey) (maxL := 1) (ret := (some .boolean)) (ls0 := [some (.inl (nI k))]) RX4 rfl (by decide) rfl rfl (Nat.le_of_ble_eq_true rfl) (fun E C X => ?_)
  refine cr_iload_n (pc := 0) C dX4_isKey_0 rfl ?_
  refine cr_i2l (pc := 1) C dX4_isKey_1 ?_
  refine cr_lconst (pc := 2) (v := 0) C dX4_isKey_2 rfl ?_
  refine cr_ldc2 (pc := 3) C dX4_isKey_3 klX4_isKey_39 ?_
  refine cr_dS (pc := 6) C (sm_in1 hz.1 hz.2) rfl gX4_isKey_X4_in rfl dX4_isKey_6 hsX4_in rfl ⟨rfl, rfl, Nat.le_of_ble_eq_true rfl, Nat.le_of_ble_eq_true rfl⟩ (Nat.le_of_ble_eq_true rfl) rfl ?_
  refine cr_zreturn (pc := 9) C X dX4_isKey_9 (by first | exact Or.inr rfl | exact Or.inl rfl | assumption) ?_
  exact ⟨rfl, rfl⟩
set_option maxRecDepth 100000 in
set_option maxHeartbeats 4000000 in
theorem sm_isKey0 {M : cg_M} {x : Int32} (h : ¬ cg_in x 4) : cg_D yX4_isKey wsX4_isKey rmX4_isKey [.inl (x)] M (some (.inl (nI 0))) (M) := by
  refine cg_S_of (cc := cX4_isKey) (maxL := 1) (ret := (some .boolean)) (ls0 := [some (.inl (x))]) RX4 rfl (by decide) rfl rfl (Nat.le_of_ble_eq_true rfl) (fun E C X => ?_)
  refine cr_iload_n (pc := 0) C dX4_isKey_0 rfl ?_
  refine cr_i2l (pc := 1) C dX4_isKey_1 ?_
  refine cr_lconst (pc := 2) (v := 0) C dX4_isKey_2 rfl ?_
  refine cr_ldc2 (pc := 3) C dX4_isKey_3 klX4_isKey_39 ?_
  refine cr_dS (pc := 6) C (sm_in0 (fun q => h ((cg_in64 (n := 3) (by decide)).mp q))) rfl gX4_isKey_X4_in rfl dX4_isKey_6 hsX4_in rfl ⟨rfl, rfl, Nat.le_of_ble_eq_true rfl, Nat.le_of_ble_eq_true rfl⟩ (Nat.le_of_ble_eq_true rfl) rfl ?_
  refine cr_zreturn (pc := 9) C X dX4_isKey_9 (by first | exact Or.inr rfl | exact Or.inl rfl | assumption) ?_
  exact ⟨rfl, rfl⟩
set_option maxRecDepth 100000 in
set_option maxHeartbeats 4000000 in
theorem sm_error {M : cg_M} {x : Int32} {e : Nat} (he : e < 5) (hx : (-2) - x = nI e) : cg_D yX4_error wsX4_error rmX4_error [.inr (.inr (4, 0, 0, 0)), .inl (x)] M (some (.inl x)) (cg_up M 23 e (M 23 e + nI 1)) := by
  refine cg_S_of (cc := cX4_error) (maxL := 2) (ret := (some .int)) (ls0 := [some (.inr (.inr (4, 0, 0, 0))), some (.inl (x))]) RX4 rfl (by decide) rfl rfl (Nat.le_of_ble_eq_true rfl) (fun E C X => ?_)
  refine cr_aload_n (pc := 0) C dX4_error_0 rfl ?_
  refine cr_getr (pc := 1) (c := 4) (k := 4) C (by first | rfl | assumption | (simp [cg_ok]; omega)) rfl (by decide) rfl inX4_error_X4 flX4_error_19 dX4_error_1 ?_
  refine cr_bipush (pc := 4) (v := (-2)) C dX4_error_4 (by decide) ?_
  refine cr_iload_n (pc := 6) C dX4_error_6 rfl ?_
  refine cr_isub (pc := 7) C dX4_error_7 ?_
  rw [hx]
  refine cr_dup2 (pc := 8) C dX4_error_8 rfl rfl ?_
  refine cr_iaload (pc := 9) C rfl (by first | rfl | assumption | (simp [cg_ok]; omega)) (by omega) (by first | decide | omega) dX4_error_9 ?_
  refine cr_iconst (pc := 10) (v := nI 1) C dX4_error_10 (by decide) ?_
  refine cr_iadd (pc := 11) C dX4_error_11 ?_
  refine cr_iastore (pc := 12) C rfl (by first | rfl | assumption | (simp [cg_ok]; omega)) (by omega) (by first | decide | omega) dX4_error_12 ?_
  refine cr_iload_n (pc := 13) C dX4_error_13 rfl ?_
  refine cr_ireturn (pc := 14) C X dX4_error_14 ?_
  exact ⟨rfl, rfl⟩
set_option maxRecDepth 100000 in
set_option maxHeartbeats 4000000 in
theorem sm_gs {M : cg_M} {P : Nat → Int32} {c : Nat} (hc : c < 4) : cg_D yX4_guarantees wsX4_guarantees rmX4_guarantees [.inr (.inr (4, 0, 0, 0)), .inl (nI c)] (cg_sb M 20 P) (some (.inl (P (313 + 7 * c)))) ((cg_sb M 20 P)) := by
  refine cg_S_of (cc := cX4_guarantees) (maxL := 2) (ret := (some .int)) (ls0 := [some (.inr (.inr (4, 0, 0, 0))), some (.inl (nI c))]) RX4 rfl (by decide) rfl rfl (Nat.le_of_ble_eq_true rfl) (fun E C X => ?_)
  refine cr_aload_n (pc := 0) C dX4_guarantees_0 rfl ?_
  refine cr_getr (pc := 1) (c := 4) (k := 0) C (by first | rfl | assumption | (simp [cg_ok]; omega)) rfl (by decide) rfl inX4_guarantees_X4 flX4_guarantees_7 dX4_guarantees_1 ?_
  refine cr_sipush (pc := 4) (v := nI 313) C dX4_guarantees_4 (by decide) ?_
  refine cr_bipush (pc := 7) (v := nI 7) C dX4_guarantees_7 (by decide) ?_
  refine cr_iload_n (pc := 9) C dX4_guarantees_9 rfl ?_
  refine cr_imul_n (pc := 10) C dX4_guarantees_10 ?_
  refine cr_iadd_n (pc := 11) C dX4_guarantees_11 ?_
  refine cr_iaload (pc := 12) C rfl (by first | rfl | assumption | (simp [cg_ok]; omega)) (by omega) (by first | decide | omega) dX4_guarantees_12 ?_
  rw [cg_sb_s]
  refine cr_ireturn (pc := 13) C X dX4_guarantees_13 ?_
  exact ⟨rfl, rfl⟩
set_option maxRecDepth 100000 in
set_option maxHeartbeats 4000000 in
theorem sm_covers {M : cg_M} {P : Nat → Int32} {a b : Nat} (ha : a + 3 ≤ 345) (hb : b + 3 ≤ 345) : cg_D yX4_covers wsX4_covers rmX4_covers [.inr (.inr (4, 0, 0, 0)), .inl (nI a), .inl (nI b)] (cg_sb M 20 P) (some (.inl (cg_b (cg_cv P a b)))) ((cg_sb M 20 P)) := by
  refine cg_S_of (cc := cX4_covers) (maxL := 5) (ret := (some .boolean)) (ls0 := [some (.inr (.inr (4, 0, 0, 0))), some (.inl (nI a)), some (.inl (nI b)), none, none]) RX4 rfl (by decide) rfl rfl (Nat.le_of_ble_eq_true rfl) (fun E C X => ?_)
  refine cr_iconst (pc := 0) (v := nI 1) C dX4_covers_0 (by decide) ?_
  refine cr_istore_n3 (pc := 1) C dX4_covers_1 (by decide) rfl ?_
  refine cr_iconst (pc := 2) (v := nI 0) C dX4_covers_2 (by decide) ?_
  refine cr_istore4 (pc := 3) C dX4_covers_3 (by decide) rfl ?_
  refine cr_iload (pc := 5) C dX4_covers_5 rfl ?_
  refine cr_iconst (pc := 7) (v := nI 3) C dX4_covers_7 (by decide) ?_
  refine cr_icmp_ge_f (pc := 8) (tgt := 48) C dX4_covers_8 (by decide) (by decide) ?_
  refine cr_iload_n (pc := 11) C dX4_covers_11 rfl ?_
  refine cr_if_eq_f (pc := 12) (tgt := 40) C dX4_covers_12 (by decide) (by decide) ?_
  refine cr_aload_n (pc := 15) C dX4_covers_15 rfl ?_
  refine cr_getr (pc := 16) (c := 4) (k := 0) C (by first | rfl | assumption | (simp [cg_ok]; omega)) rfl (by decide) rfl inX4_covers_X4 flX4_covers_7 dX4_covers_16 ?_
  refine cr_iload_n (pc := 19) C dX4_covers_19 rfl ?_
  refine cr_iload (pc := 20) C dX4_covers_20 rfl ?_
  refine cr_iadd_n (pc := 22) C dX4_covers_22 ?_
  refine cr_iaload (pc := 23) C rfl (by first | rfl | assumption | (simp [cg_ok]; omega)) (by omega) (by first | decide | omega) dX4_covers_23 ?_
  rw [cg_sb_s]
  refine cr_aload_n (pc := 24) C dX4_covers_24 rfl ?_
  refine cr_getr (pc := 25) (c := 4) (k := 0) C (by first | rfl | assumption | (simp [cg_ok]; omega)) rfl (by decide) rfl inX4_covers_X4 flX4_covers_7 dX4_covers_25 ?_
  refine cr_iload_n (pc := 28) C dX4_covers_28 rfl ?_
  refine cr_iload (pc := 29) C dX4_covers_29 rfl ?_
  refine cr_iadd_n (pc := 31) C dX4_covers_31 ?_
  refine cr_iaload (pc := 32) C rfl (by first | rfl | assumption | (simp [cg_ok]; omega)) (by omega) (by first | decide | omega) dX4_covers_32 ?_
  rw [cg_sb_s]
  refine cr_icmp_gt (pc := 33) (tgt := 40) C dX4_covers_33 (by decide) (fun h33 => ?_) (fun h33 => ?_)
  · have g0 : decide (P b ≤ P a) = false := decide_eq_false (Int32.not_le.mpr h33)
    refine cr_iconst (pc := 40) (v := nI 0) C dX4_covers_40 (by decide) ?_
    refine cr_istore_n3 (pc := 41) C dX4_covers_41 (by decide) rfl ?_
    refine cr_iinc4 (pc := 42) (v := nI 1) C dX4_covers_42 (by decide) (by decide) rfl ?_
    refine cr_goto (pc := 45) (tgt := 5) C dX4_covers_45 (by decide) ?_
    refine cr_iload (pc := 5) C dX4_covers_5 rfl ?_
    refine cr_iconst (pc := 7) (v := nI 3) C dX4_covers_7 (by decide) ?_
    refine cr_icmp_ge_f (pc := 8) (tgt := 48) C dX4_covers_8 (by decide) (by decide) ?_
    refine cr_iload_n (pc := 11) C dX4_covers_11 rfl ?_
    refine cr_if_eq_t (pc := 12) (tgt := 40) C dX4_covers_12 (by decide) (by decide) ?_
    refine cr_iconst (pc := 40) (v := nI 0) C dX4_covers_40 (by decide) ?_
    refine cr_istore_n3 (pc := 41) C dX4_covers_41 (by decide) rfl ?_
    refine cr_iinc4 (pc := 42) (v := nI 2) C dX4_covers_42 (by decide) (by decide) rfl ?_
    refine cr_goto (pc := 45) (tgt := 5) C dX4_covers_45 (by decide) ?_
    refine cr_iload (pc := 5) C dX4_covers_5 rfl ?_
    refine cr_iconst (pc := 7) (v := nI 3) C dX4_covers_7 (by decide) ?_
    refine cr_icmp_ge_f (pc := 8) (tgt := 48) C dX4_covers_8 (by decide) (by decide) ?_
    refine cr_iload_n (pc := 11) C dX4_covers_11 rfl ?_
    refine cr_if_eq_t (pc := 12) (tgt := 40) C dX4_covers_12 (by decide) (by decide) ?_
    refine cr_iconst (pc := 40) (v := nI 0) C dX4_covers_40 (by decide) ?_
    refine cr_istore_n3 (pc := 41) C dX4_covers_41 (by decide) rfl ?_
    refine cr_iinc4 (pc := 42) (v := nI 3) C dX4_covers_42 (by decide) (by decide) rfl ?_
    refine cr_goto (pc := 45) (tgt := 5) C dX4_covers_45 (by decide) ?_
    refine cr_iload (pc := 5) C dX4_covers_5 rfl ?_
    refine cr_iconst (pc := 7) (v := nI 3) C dX4_covers_7 (by decide) ?_
    refine cr_icmp_ge_t (pc := 8) (tgt := 48) C dX4_covers_8 (by decide) (by decide) ?_
    refine cr_iload_n (pc := 48) C dX4_covers_48 rfl ?_
    refine cr_zreturn (pc := 49) C X dX4_covers_49 (by first | exact Or.inr rfl | exact Or.inl rfl | assumption) ?_
    have hz : cg_cv P a b = false := by unfold cg_cv; simp only [*, decide_true, decide_false, Bool.false_and, Bool.and_false, Bool.and_self, Bool.true_and, Bool.and_true]
    exact ⟨by rw [hz]; rfl, rfl⟩
  · have g0 : decide (P b ≤ P a) = true := decide_eq_true (Int32.not_lt.mp h33)
    refine cr_iconst (pc := 36) (v := nI 1) C dX4_covers_36 (by decide) ?_
    refine cr_goto (pc := 37) (tgt := 41) C dX4_covers_37 (by decide) ?_
    refine cr_istore_n3 (pc := 41) C dX4_covers_41 (by decide) rfl ?_
    refine cr_iinc4 (pc := 42) (v := nI 1) C dX4_covers_42 (by decide) (by decide) rfl ?_
    refine cr_goto (pc := 45) (tgt := 5) C dX4_covers_45 (by decide) ?_
    refine cr_iload (pc := 5) C dX4_covers_5 rfl ?_
    refine cr_iconst (pc := 7) (v := nI 3) C dX4_covers_7 (by decide) ?_
    refine cr_icmp_ge_f (pc := 8) (tgt := 48) C dX4_covers_8 (by decide) (by decide) ?_
    refine cr_iload_n (pc := 11) C dX4_covers_11 rfl ?_
    refine cr_if_eq_f (pc := 12) (tgt := 40) C dX4_covers_12 (by decide) (by decide) ?_
    refine cr_aload_n (pc := 15) C dX4_covers_15 rfl ?_
    refine cr_getr (pc := 16) (c := 4) (k := 0) C (by first | rfl | assumption | (simp [cg_ok]; omega)) rfl (by decide) rfl inX4_covers_X4 flX4_covers_7 dX4_covers_16 ?_
    refine cr_iload_n (pc := 19) C dX4_covers_19 rfl ?_
    refine cr_iload (pc := 20) C dX4_covers_20 rfl ?_
    refine cr_iadd_n (pc := 22) C dX4_covers_22 ?_
    refine cr_iaload (pc := 23) C rfl (by first | rfl | assumption | (simp [cg_ok]; omega)) (by omega) (by first | decide | omega) dX4_covers_23 ?_
    rw [cg_sb_s]
    refine cr_aload_n (pc := 24) C dX4_covers_24 rfl ?_
    refine cr_getr (pc := 25) (c := 4) (k := 0) C (by first | rfl | assumption | (simp [cg_ok]; omega)) rfl (by decide) rfl inX4_covers_X4 flX4_covers_7 dX4_covers_25 ?_
    refine cr_iload_n (pc := 28) C dX4_covers_28 rfl ?_
    refine cr_iload (pc := 29) C dX4_covers_29 rfl ?_
    refine cr_iadd_n (pc := 31) C dX4_covers_31 ?_
    refine cr_iaload (pc := 32) C rfl (by first | rfl | assumption | (simp [cg_ok]; omega)) (by omega) (by first | decide | omega) dX4_covers_32 ?_
    rw [cg_sb_s]
    refine cr_icmp_gt (pc := 33) (tgt := 40) C dX4_covers_33 (by decide) (fun h33 => ?_) (fun h33 => ?_)
    · have g1 : decide (P (b + 1) ≤ P (a + 1)) = false := decide_eq_false (Int32.not_le.mpr h33)
      refine cr_iconst (pc := 40) (v := nI 0) C dX4_covers_40 (by decide) ?_
      refine cr_istore_n3 (pc := 41) C dX4_covers_41 (by decide) rfl ?_
      refine cr_iinc4 (pc := 42) (v := nI 2) C dX4_covers_42 (by decide) (by decide) rfl ?_
      refine cr_goto (pc := 45) (tgt := 5) C dX4_covers_45 (by decide) ?_
      refine cr_iload (pc := 5) C dX4_covers_5 rfl ?_
      refine cr_iconst (pc := 7) (v := nI 3) C dX4_covers_7 (by decide) ?_
      refine cr_icmp_ge_f (pc := 8) (tgt := 48) C dX4_covers_8 (by decide) (by decide) ?_
      refine cr_iload_n (pc := 11) C dX4_covers_11 rfl ?_
      refine cr_if_eq_t (pc := 12) (tgt := 40) C dX4_covers_12 (by decide) (by decide) ?_
      refine cr_iconst (pc := 40) (v := nI 0) C dX4_covers_40 (by decide) ?_
      refine cr_istore_n3 (pc := 41) C dX4_covers_41 (by decide) rfl ?_
      refine cr_iinc4 (pc := 42) (v := nI 3) C dX4_covers_42 (by decide) (by decide) rfl ?_
      refine cr_goto (pc := 45) (tgt := 5) C dX4_covers_45 (by decide) ?_
      refine cr_iload (pc := 5) C dX4_covers_5 rfl ?_
      refine cr_iconst (pc := 7) (v := nI 3) C dX4_covers_7 (by decide) ?_
      refine cr_icmp_ge_t (pc := 8) (tgt := 48) C dX4_covers_8 (by decide) (by decide) ?_
      refine cr_iload_n (pc := 48) C dX4_covers_48 rfl ?_
      refine cr_zreturn (pc := 49) C X dX4_covers_49 (by first | exact Or.inr rfl | exact Or.inl rfl | assumption) ?_
      have hz : cg_cv P a b = false := by unfold cg_cv; simp only [*, decide_true, decide_false, Bool.false_and, Bool.and_false, Bool.and_self, Bool.true_and, Bool.and_true]
      exact ⟨by rw [hz]; rfl, rfl⟩
    · have g1 : decide (P (b + 1) ≤ P (a + 1)) = true := decide_eq_true (Int32.not_lt.mp h33)
      refine cr_iconst (pc := 36) (v := nI 1) C dX4_covers_36 (by decide) ?_
      refine cr_goto (pc := 37) (tgt := 41) C dX4_covers_37 (by decide) ?_
      refine cr_istore_n3 (pc := 41) C dX4_covers_41 (by decide) rfl ?_
      refine cr_iinc4 (pc := 42) (v := nI 2) C dX4_covers_42 (by decide) (by decide) rfl ?_
      refine cr_goto (pc := 45) (tgt := 5) C dX4_covers_45 (by decide) ?_
      refine cr_iload (pc := 5) C dX4_covers_5 rfl ?_
      refine cr_iconst (pc := 7) (v := nI 3) C dX4_covers_7 (by decide) ?_
      refine cr_icmp_ge_f (pc := 8) (tgt := 48) C dX4_covers_8 (by decide) (by decide) ?_
      refine cr_iload_n (pc := 11) C dX4_covers_11 rfl ?_
      refine cr_if_eq_f (pc := 12) (tgt := 40) C dX4_covers_12 (by decide) (by decide) ?_
      refine cr_aload_n (pc := 15) C dX4_covers_15 rfl ?_
      refine cr_getr (pc := 16) (c := 4) (k := 0) C (by first | rfl | assumption | (simp [cg_ok]; omega)) rfl (by decide) rfl inX4_covers_X4 flX4_covers_7 dX4_covers_16 ?_
      refine cr_iload_n (pc := 19) C dX4_covers_19 rfl ?_
      refine cr_iload (pc := 20) C dX4_covers_20 rfl ?_
      refine cr_iadd_n (pc := 22) C dX4_covers_22 ?_
      refine cr_iaload (pc := 23) C rfl (by first | rfl | assumption | (simp [cg_ok]; omega)) (by omega) (by first | decide | omega) dX4_covers_23 ?_
      rw [cg_sb_s]
      refine cr_aload_n (pc := 24) C dX4_covers_24 rfl ?_
      refine cr_getr (pc := 25) (c := 4) (k := 0) C (by first | rfl | assumption | (simp [cg_ok]; omega)) rfl (by decide) rfl inX4_covers_X4 flX4_covers_7 dX4_covers_25 ?_
      refine cr_iload_n (pc := 28) C dX4_covers_28 rfl ?_
      refine cr_iload (pc := 29) C dX4_covers_29 rfl ?_
      refine cr_iadd_n (pc := 31) C dX4_covers_31 ?_
      refine cr_iaload (pc := 32) C rfl (by first | rfl | assumption | (simp [cg_ok]; omega)) (by omega) (by first | decide | omega) dX4_covers_32 ?_
      rw [cg_sb_s]
      refine cr_icmp_gt (pc := 33) (tgt := 40) C dX4_covers_33 (by decide) (fun h33 => ?_) (fun h33 => ?_)
      · have g2 : decide (P (b + 2) ≤ P (a + 2)) = false := decide_eq_false (Int32.not_le.mpr h33)
        refine cr_iconst (pc := 40) (v := nI 0) C dX4_covers_40 (by decide) ?_
        refine cr_istore_n3 (pc := 41) C dX4_covers_41 (by decide) rfl ?_
        refine cr_iinc4 (pc := 42) (v := nI 3) C dX4_covers_42 (by decide) (by decide) rfl ?_
        refine cr_goto (pc := 45) (tgt := 5) C dX4_covers_45 (by decide) ?_
        refine cr_iload (pc := 5) C dX4_covers_5 rfl ?_
        refine cr_iconst (pc := 7) (v := nI 3) C dX4_covers_7 (by decide) ?_
        refine cr_icmp_ge_t (pc := 8) (tgt := 48) C dX4_covers_8 (by decide) (by decide) ?_
        refine cr_iload_n (pc := 48) C dX4_covers_48 rfl ?_
        refine cr_zreturn (pc := 49) C X dX4_covers_49 (by first | exact Or.inr rfl | exact Or.inl rfl | assumption) ?_
        have hz : cg_cv P a b = false := by unfold cg_cv; simp only [*, decide_true, decide_false, Bool.false_and, Bool.and_false, Bool.and_self, Bool.true_and, Bool.and_true]
        exact ⟨by rw [hz]; rfl, rfl⟩
      · have g2 : decide (P (b + 2) ≤ P (a + 2)) = true := decide_eq_true (Int32.not_lt.mp h33)
        refine cr_iconst (pc := 36) (v := nI 1) C dX4_covers_36 (by decide) ?_
        refine cr_goto (pc := 37) (tgt := 41) C dX4_covers_37 (by decide) ?_
        refine cr_istore_n3 (pc := 41) C dX4_covers_41 (by decide) rfl ?_
        refine cr_iinc4 (pc := 42) (v := nI 3) C dX4_covers_42 (by decide) (by decide) rfl ?_
        refine cr_goto (pc := 45) (tgt := 5) C dX4_covers_45 (by decide) ?_
        refine cr_iload (pc := 5) C dX4_covers_5 rfl ?_
        refine cr_iconst (pc := 7) (v := nI 3) C dX4_covers_7 (by decide) ?_
        refine cr_icmp_ge_t (pc := 8) (tgt := 48) C dX4_covers_8 (by decide) (by decide) ?_
        refine cr_iload_n (pc := 48) C dX4_covers_48 rfl ?_
        refine cr_zreturn (pc := 49) C X dX4_covers_49 (by first | exact Or.inr rfl | exact Or.inl rfl | assumption) ?_
        have hz : cg_cv P a b = true := by unfold cg_cv; simp only [*, decide_true, decide_false, Bool.false_and, Bool.and_false, Bool.and_self, Bool.true_and, Bool.and_true]
        exact ⟨by rw [hz]; rfl, rfl⟩
set_option maxRecDepth 100000 in
set_option maxHeartbeats 4000000 in
theorem sm_uR {M : cg_M} {P : Nat → Int32} {c r : Nat} (hc : c < 4) (hr : r < 3) (hI : cg_I P) : cg_D yX4_breachesOfRead wsX4_breachesOfRead rmX4_breachesOfRead [.inr (.inr (4, 0, 0, 0)), .inl (nI c), .inl (nI r)] (cg_sb M 20 P) (some (.inl (nI (cg_uR P c (2 ^ r))))) ((cg_sb M 20 P)) := by
  cases h1 : cg_cs P (2 ^ r) (317 + 7 * c) <;> cases h2 : cg_cs P (2 ^ r) (314 + 7 * c)
  · refine cg_S_of (cc := cX4_breachesOfRead) (maxL := 4) (ret := (some .int)) (ls0 := [some (.inr (.inr (4, 0, 0, 0))), some (.inl (nI c)), some (.inl (nI r)), none]) RX4 rfl (by decide) rfl rfl (Nat.le_of_ble_eq_true rfl) (fun E C X => ?_)
    refine cr_sipush (pc := 0) (v := nI 313) C dX4_breachesOfRead_0 (by decide) ?_
    refine cr_bipush (pc := 3) (v := nI 7) C dX4_breachesOfRead_3 (by decide) ?_
    refine cr_iload_n (pc := 5) C dX4_breachesOfRead_5 rfl ?_
    refine cr_imul_n (pc := 6) C dX4_breachesOfRead_6 ?_
    refine cr_iadd_n (pc := 7) C dX4_breachesOfRead_7 ?_
    refine cr_istore_n3 (pc := 8) C dX4_breachesOfRead_8 (by decide) rfl ?_
    refine cr_aload_n (pc := 9) C dX4_breachesOfRead_9 rfl ?_
    refine cr_iconst (pc := 10) (v := nI 3) C dX4_breachesOfRead_10 (by decide) ?_
    refine cr_iload_n (pc := 11) C dX4_breachesOfRead_11 rfl ?_
    refine cr_imul_n (pc := 12) C dX4_breachesOfRead_12 ?_
    refine cr_iload_n (pc := 13) C dX4_breachesOfRead_13 rfl ?_
    refine cr_iconst (pc := 14) (v := nI 4) C dX4_breachesOfRead_14 (by decide) ?_
    refine cr_iadd_n (pc := 15) C dX4_breachesOfRead_15 ?_
    refine cr_dV (pc := 16) C (sm_covers (by omega) (by omega)) rfl gX4_breachesOfRead_X4_covers rfl dX4_breachesOfRead_16 (by first | rfl | assumption | (simp [cg_ok]; omega)) rfl hvX4_covers rfl ⟨rfl, rfl, Nat.le_of_ble_eq_true rfl, Nat.le_of_ble_eq_true rfl⟩ (Nat.le_of_ble_eq_true rfl) rfl ?_
    rw [show 313 + 7 * c + 4 = 317 + 7 * c by omega, cg_cv_cs hI hr, h1]
    refine cr_if_eq_t (pc := 19) (tgt := 26) C dX4_breachesOfRead_19 (by decide) (by decide) ?_
    refine cr_iconst (pc := 26) (v := nI 1) C dX4_breachesOfRead_26 (by decide) ?_
    refine cr_aload_n (pc := 27) C dX4_breachesOfRead_27 rfl ?_
    refine cr_iconst (pc := 28) (v := nI 3) C dX4_breachesOfRead_28 (by decide) ?_
    refine cr_iload_n (pc := 29) C dX4_breachesOfRead_29 rfl ?_
    refine cr_imul_n (pc := 30) C dX4_breachesOfRead_30 ?_
    refine cr_iload_n (pc := 31) C dX4_breachesOfRead_31 rfl ?_
    refine cr_iconst (pc := 32) (v := nI 1) C dX4_breachesOfRead_32 (by decide) ?_
    refine cr_iadd_n (pc := 33) C dX4_breachesOfRead_33 ?_
    refine cr_dV (pc := 34) C (sm_covers (by omega) (by omega)) rfl gX4_breachesOfRead_X4_covers rfl dX4_breachesOfRead_34 (by first | rfl | assumption | (simp [cg_ok]; omega)) rfl hvX4_covers rfl ⟨rfl, rfl, Nat.le_of_ble_eq_true rfl, Nat.le_of_ble_eq_true rfl⟩ (Nat.le_of_ble_eq_true rfl) rfl ?_
    rw [show 313 + 7 * c + 1 = 314 + 7 * c by omega, cg_cv_cs hI hr, h2]
    refine cr_if_eq_t (pc := 37) (tgt := 44) C dX4_breachesOfRead_37 (by decide) (by decide) ?_
    refine cr_iconst (pc := 44) (v := nI 2) C dX4_breachesOfRead_44 (by decide) ?_
    refine cr_ior (pc := 45) C dX4_breachesOfRead_45 ?_
    refine cr_ireturn (pc := 46) C X dX4_breachesOfRead_46 ?_
    exact ⟨by unfold cg_uR; rw [h1, h2]; rfl, rfl⟩
  · refine cg_S_of (cc := cX4_breachesOfRead) (maxL := 4) (ret := (some .int)) (ls0 := [some (.inr (.inr (4, 0, 0, 0))), some (.inl (nI c)), some (.inl (nI r)), none]) RX4 rfl (by decide) rfl rfl (Nat.le_of_ble_eq_true rfl) (fun E C X => ?_)
    refine cr_sipush (pc := 0) (v := nI 313) C dX4_breachesOfRead_0 (by decide) ?_
    refine cr_bipush (pc := 3) (v := nI 7) C dX4_breachesOfRead_3 (by decide) ?_
    refine cr_iload_n (pc := 5) C dX4_breachesOfRead_5 rfl ?_
    refine cr_imul_n (pc := 6) C dX4_breachesOfRead_6 ?_
    refine cr_iadd_n (pc := 7) C dX4_breachesOfRead_7 ?_
    refine cr_istore_n3 (pc := 8) C dX4_breachesOfRead_8 (by decide) rfl ?_
    refine cr_aload_n (pc := 9) C dX4_breachesOfRead_9 rfl ?_
    refine cr_iconst (pc := 10) (v := nI 3) C dX4_breachesOfRead_10 (by decide) ?_
    refine cr_iload_n (pc := 11) C dX4_breachesOfRead_11 rfl ?_
    refine cr_imul_n (pc := 12) C dX4_breachesOfRead_12 ?_
    refine cr_iload_n (pc := 13) C dX4_breachesOfRead_13 rfl ?_
    refine cr_iconst (pc := 14) (v := nI 4) C dX4_breachesOfRead_14 (by decide) ?_
    refine cr_iadd_n (pc := 15) C dX4_breachesOfRead_15 ?_
    refine cr_dV (pc := 16) C (sm_covers (by omega) (by omega)) rfl gX4_breachesOfRead_X4_covers rfl dX4_breachesOfRead_16 (by first | rfl | assumption | (simp [cg_ok]; omega)) rfl hvX4_covers rfl ⟨rfl, rfl, Nat.le_of_ble_eq_true rfl, Nat.le_of_ble_eq_true rfl⟩ (Nat.le_of_ble_eq_true rfl) rfl ?_
    rw [show 313 + 7 * c + 4 = 317 + 7 * c by omega, cg_cv_cs hI hr, h1]
    refine cr_if_eq_t (pc := 19) (tgt := 26) C dX4_breachesOfRead_19 (by decide) (by decide) ?_
    refine cr_iconst (pc := 26) (v := nI 1) C dX4_breachesOfRead_26 (by decide) ?_
    refine cr_aload_n (pc := 27) C dX4_breachesOfRead_27 rfl ?_
    refine cr_iconst (pc := 28) (v := nI 3) C dX4_breachesOfRead_28 (by decide) ?_
    refine cr_iload_n (pc := 29) C dX4_breachesOfRead_29 rfl ?_
    refine cr_imul_n (pc := 30) C dX4_breachesOfRead_30 ?_
    refine cr_iload_n (pc := 31) C dX4_breachesOfRead_31 rfl ?_
    refine cr_iconst (pc := 32) (v := nI 1) C dX4_breachesOfRead_32 (by decide) ?_
    refine cr_iadd_n (pc := 33) C dX4_breachesOfRead_33 ?_
    refine cr_dV (pc := 34) C (sm_covers (by omega) (by omega)) rfl gX4_breachesOfRead_X4_covers rfl dX4_breachesOfRead_34 (by first | rfl | assumption | (simp [cg_ok]; omega)) rfl hvX4_covers rfl ⟨rfl, rfl, Nat.le_of_ble_eq_true rfl, Nat.le_of_ble_eq_true rfl⟩ (Nat.le_of_ble_eq_true rfl) rfl ?_
    rw [show 313 + 7 * c + 1 = 314 + 7 * c by omega, cg_cv_cs hI hr, h2]
    refine cr_if_eq_f (pc := 37) (tgt := 44) C dX4_breachesOfRead_37 (by decide) (by decide) ?_
    refine cr_iconst (pc := 40) (v := nI 0) C dX4_breachesOfRead_40 (by decide) ?_
    refine cr_goto (pc := 41) (tgt := 45) C dX4_breachesOfRead_41 (by decide) ?_
    refine cr_ior (pc := 45) C dX4_breachesOfRead_45 ?_
    refine cr_ireturn (pc := 46) C X dX4_breachesOfRead_46 ?_
    exact ⟨by unfold cg_uR; rw [h1, h2]; rfl, rfl⟩
  · refine cg_S_of (cc := cX4_breachesOfRead) (maxL := 4) (ret := (some .int)) (ls0 := [some (.inr (.inr (4, 0, 0, 0))), some (.inl (nI c)), some (.inl (nI r)), none]) RX4 rfl (by decide) rfl rfl (Nat.le_of_ble_eq_true rfl) (fun E C X => ?_)
    refine cr_sipush (pc := 0) (v := nI 313) C dX4_breachesOfRead_0 (by decide) ?_
    refine cr_bipush (pc := 3) (v := nI 7) C dX4_breachesOfRead_3 (by decide) ?_
    refine cr_iload_n (pc := 5) C dX4_breachesOfRead_5 rfl ?_
    refine cr_imul_n (pc := 6) C dX4_breachesOfRead_6 ?_
    refine cr_iadd_n (pc := 7) C dX4_breachesOfRead_7 ?_
    refine cr_istore_n3 (pc := 8) C dX4_breachesOfRead_8 (by decide) rfl ?_
    refine cr_aload_n (pc := 9) C dX4_breachesOfRead_9 rfl ?_
    refine cr_iconst (pc := 10) (v := nI 3) C dX4_breachesOfRead_10 (by decide) ?_
    refine cr_iload_n (pc := 11) C dX4_breachesOfRead_11 rfl ?_
    refine cr_imul_n (pc := 12) C dX4_breachesOfRead_12 ?_
    refine cr_iload_n (pc := 13) C dX4_breachesOfRead_13 rfl ?_
    refine cr_iconst (pc := 14) (v := nI 4) C dX4_breachesOfRead_14 (by decide) ?_
    refine cr_iadd_n (pc := 15) C dX4_breachesOfRead_15 ?_
    refine cr_dV (pc := 16) C (sm_covers (by omega) (by omega)) rfl gX4_breachesOfRead_X4_covers rfl dX4_breachesOfRead_16 (by first | rfl | assumption | (simp [cg_ok]; omega)) rfl hvX4_covers rfl ⟨rfl, rfl, Nat.le_of_ble_eq_true rfl, Nat.le_of_ble_eq_true rfl⟩ (Nat.le_of_ble_eq_true rfl) rfl ?_
    rw [show 313 + 7 * c + 4 = 317 + 7 * c by omega, cg_cv_cs hI hr, h1]
    refine cr_if_eq_f (pc := 19) (tgt := 26) C dX4_breachesOfRead_19 (by decide) (by decide) ?_
    refine cr_iconst (pc := 22) (v := nI 0) C dX4_breachesOfRead_22 (by decide) ?_
    refine cr_goto (pc := 23) (tgt := 27) C dX4_breachesOfRead_23 (by decide) ?_
    refine cr_aload_n (pc := 27) C dX4_breachesOfRead_27 rfl ?_
    refine cr_iconst (pc := 28) (v := nI 3) C dX4_breachesOfRead_28 (by decide) ?_
    refine cr_iload_n (pc := 29) C dX4_breachesOfRead_29 rfl ?_
    refine cr_imul_n (pc := 30) C dX4_breachesOfRead_30 ?_
    refine cr_iload_n (pc := 31) C dX4_breachesOfRead_31 rfl ?_
    refine cr_iconst (pc := 32) (v := nI 1) C dX4_breachesOfRead_32 (by decide) ?_
    refine cr_iadd_n (pc := 33) C dX4_breachesOfRead_33 ?_
    refine cr_dV (pc := 34) C (sm_covers (by omega) (by omega)) rfl gX4_breachesOfRead_X4_covers rfl dX4_breachesOfRead_34 (by first | rfl | assumption | (simp [cg_ok]; omega)) rfl hvX4_covers rfl ⟨rfl, rfl, Nat.le_of_ble_eq_true rfl, Nat.le_of_ble_eq_true rfl⟩ (Nat.le_of_ble_eq_true rfl) rfl ?_
    rw [show 313 + 7 * c + 1 = 314 + 7 * c by omega, cg_cv_cs hI hr, h2]
    refine cr_if_eq_t (pc := 37) (tgt := 44) C dX4_breachesOfRead_37 (by decide) (by decide) ?_
    refine cr_iconst (pc := 44) (v := nI 2) C dX4_breachesOfRead_44 (by decide) ?_
    refine cr_ior (pc := 45) C dX4_breachesOfRead_45 ?_
    refine cr_ireturn (pc := 46) C X dX4_breachesOfRead_46 ?_
    exact ⟨by unfold cg_uR; rw [h1, h2]; rfl, rfl⟩
  · refine cg_S_of (cc := cX4_breachesOfRead) (maxL := 4) (ret := (some .int)) (ls0 := [some (.inr (.inr (4, 0, 0, 0))), some (.inl (nI c)), some (.inl (nI r)), none]) RX4 rfl (by decide) rfl rfl (Nat.le_of_ble_eq_true rfl) (fun E C X => ?_)
    refine cr_sipush (pc := 0) (v := nI 313) C dX4_breachesOfRead_0 (by decide) ?_
    refine cr_bipush (pc := 3) (v := nI 7) C dX4_breachesOfRead_3 (by decide) ?_
    refine cr_iload_n (pc := 5) C dX4_breachesOfRead_5 rfl ?_
    refine cr_imul_n (pc := 6) C dX4_breachesOfRead_6 ?_
    refine cr_iadd_n (pc := 7) C dX4_breachesOfRead_7 ?_
    refine cr_istore_n3 (pc := 8) C dX4_breachesOfRead_8 (by decide) rfl ?_
    refine cr_aload_n (pc := 9) C dX4_breachesOfRead_9 rfl ?_
    refine cr_iconst (pc := 10) (v := nI 3) C dX4_breachesOfRead_10 (by decide) ?_
    refine cr_iload_n (pc := 11) C dX4_breachesOfRead_11 rfl ?_
    refine cr_imul_n (pc := 12) C dX4_breachesOfRead_12 ?_
    refine cr_iload_n (pc := 13) C dX4_breachesOfRead_13 rfl ?_
    refine cr_iconst (pc := 14) (v := nI 4) C dX4_breachesOfRead_14 (by decide) ?_
    refine cr_iadd_n (pc := 15) C dX4_breachesOfRead_15 ?_
    refine cr_dV (pc := 16) C (sm_covers (by omega) (by omega)) rfl gX4_breachesOfRead_X4_covers rfl dX4_breachesOfRead_16 (by first | rfl | assumption | (simp [cg_ok]; omega)) rfl hvX4_covers rfl ⟨rfl, rfl, Nat.le_of_ble_eq_true rfl, Nat.le_of_ble_eq_true rfl⟩ (Nat.le_of_ble_eq_true rfl) rfl ?_
    rw [show 313 + 7 * c + 4 = 317 + 7 * c by omega, cg_cv_cs hI hr, h1]
    refine cr_if_eq_f (pc := 19) (tgt := 26) C dX4_breachesOfRead_19 (by decide) (by decide) ?_
    refine cr_iconst (pc := 22) (v := nI 0) C dX4_breachesOfRead_22 (by decide) ?_
    refine cr_goto (pc := 23) (tgt := 27) C dX4_breachesOfRead_23 (by decide) ?_
    refine cr_aload_n (pc := 27) C dX4_breachesOfRead_27 rfl ?_
    refine cr_iconst (pc := 28) (v := nI 3) C dX4_breachesOfRead_28 (by decide) ?_
    refine cr_iload_n (pc := 29) C dX4_breachesOfRead_29 rfl ?_
    refine cr_imul_n (pc := 30) C dX4_breachesOfRead_30 ?_
    refine cr_iload_n (pc := 31) C dX4_breachesOfRead_31 rfl ?_
    refine cr_iconst (pc := 32) (v := nI 1) C dX4_breachesOfRead_32 (by decide) ?_
    refine cr_iadd_n (pc := 33) C dX4_breachesOfRead_33 ?_
    refine cr_dV (pc := 34) C (sm_covers (by omega) (by omega)) rfl gX4_breachesOfRead_X4_covers rfl dX4_breachesOfRead_34 (by first | rfl | assumption | (simp [cg_ok]; omega)) rfl hvX4_covers rfl ⟨rfl, rfl, Nat.le_of_ble_eq_true rfl, Nat.le_of_ble_eq_true rfl⟩ (Nat.le_of_ble_eq_true rfl) rfl ?_
    rw [show 313 + 7 * c + 1 = 314 + 7 * c by omega, cg_cv_cs hI hr, h2]
    refine cr_if_eq_f (pc := 37) (tgt := 44) C dX4_breachesOfRead_37 (by decide) (by decide) ?_
    refine cr_iconst (pc := 40) (v := nI 0) C dX4_breachesOfRead_40 (by decide) ?_
    refine cr_goto (pc := 41) (tgt := 45) C dX4_breachesOfRead_41 (by decide) ?_
    refine cr_ior (pc := 45) C dX4_breachesOfRead_45 ?_
    refine cr_ireturn (pc := 46) C X dX4_breachesOfRead_46 ?_
    exact ⟨by unfold cg_uR; rw [h1, h2]; rfl, rfl⟩
set_option maxRecDepth 100000 in
set_option maxHeartbeats 4000000 in
theorem sm_uW {M : cg_M} {P : Nat → Int32} {c r : Nat} (hc : c < 4) (hr : r < 3) (hI : cg_I P) : cg_D yX4_breachesOfWrite wsX4_breachesOfWrite rmX4_breachesOfWrite [.inr (.inr (4, 0, 0, 0)), .inl (nI c), .inl (nI r)] (cg_sb M 20 P) (some (.inl (nI (cg_uW P c r)))) ((cg_sb M 20 P)) := by
  cases h1 : cg_cs P (2 ^ r) (314 + 7 * c) <;> cases h2 : cg_cs P (2 ^ r) (317 + 7 * c)
  · refine cg_S_of (cc := cX4_breachesOfWrite) (maxL := 4) (ret := (some .int)) (ls0 := [some (.inr (.inr (4, 0, 0, 0))), some (.inl (nI c)), some (.inl (nI r)), none]) RX4 rfl (by decide) rfl rfl (Nat.le_of_ble_eq_true rfl) (fun E C X => ?_)
    refine cr_sipush (pc := 0) (v := nI 313) C dX4_breachesOfWrite_0 (by decide) ?_
    refine cr_bipush (pc := 3) (v := nI 7) C dX4_breachesOfWrite_3 (by decide) ?_
    refine cr_iload_n (pc := 5) C dX4_breachesOfWrite_5 rfl ?_
    refine cr_imul_n (pc := 6) C dX4_breachesOfWrite_6 ?_
    refine cr_iadd_n (pc := 7) C dX4_breachesOfWrite_7 ?_
    refine cr_istore_n3 (pc := 8) C dX4_breachesOfWrite_8 (by decide) rfl ?_
    refine cr_aload_n (pc := 9) C dX4_breachesOfWrite_9 rfl ?_
    refine cr_iconst (pc := 10) (v := nI 3) C dX4_breachesOfWrite_10 (by decide) ?_
    refine cr_iload_n (pc := 11) C dX4_breachesOfWrite_11 rfl ?_
    refine cr_imul_n (pc := 12) C dX4_breachesOfWrite_12 ?_
    refine cr_iload_n (pc := 13) C dX4_breachesOfWrite_13 rfl ?_
    refine cr_iconst (pc := 14) (v := nI 1) C dX4_breachesOfWrite_14 (by decide) ?_
    refine cr_iadd_n (pc := 15) C dX4_breachesOfWrite_15 ?_
    refine cr_dV (pc := 16) C (sm_covers (by omega) (by omega)) rfl gX4_breachesOfWrite_X4_covers rfl dX4_breachesOfWrite_16 (by first | rfl | assumption | (simp [cg_ok]; omega)) rfl hvX4_covers rfl ⟨rfl, rfl, Nat.le_of_ble_eq_true rfl, Nat.le_of_ble_eq_true rfl⟩ (Nat.le_of_ble_eq_true rfl) rfl ?_
    rw [show 313 + 7 * c + 1 = 314 + 7 * c by omega, cg_cv_cs hI hr, h1]
    refine cr_if_eq_t (pc := 19) (tgt := 26) C dX4_breachesOfWrite_19 (by decide) (by decide) ?_
    refine cr_iconst (pc := 26) (v := nI 4) C dX4_breachesOfWrite_26 (by decide) ?_
    refine cr_aload_n (pc := 27) C dX4_breachesOfWrite_27 rfl ?_
    refine cr_iconst (pc := 28) (v := nI 3) C dX4_breachesOfWrite_28 (by decide) ?_
    refine cr_iload_n (pc := 29) C dX4_breachesOfWrite_29 rfl ?_
    refine cr_imul_n (pc := 30) C dX4_breachesOfWrite_30 ?_
    refine cr_iload_n (pc := 31) C dX4_breachesOfWrite_31 rfl ?_
    refine cr_iconst (pc := 32) (v := nI 4) C dX4_breachesOfWrite_32 (by decide) ?_
    refine cr_iadd_n (pc := 33) C dX4_breachesOfWrite_33 ?_
    refine cr_dV (pc := 34) C (sm_covers (by omega) (by omega)) rfl gX4_breachesOfWrite_X4_covers rfl dX4_breachesOfWrite_34 (by first | rfl | assumption | (simp [cg_ok]; omega)) rfl hvX4_covers rfl ⟨rfl, rfl, Nat.le_of_ble_eq_true rfl, Nat.le_of_ble_eq_true rfl⟩ (Nat.le_of_ble_eq_true rfl) rfl ?_
    rw [show 313 + 7 * c + 4 = 317 + 7 * c by omega, cg_cv_cs hI hr, h2]
    refine cr_if_eq_t (pc := 37) (tgt := 44) C dX4_breachesOfWrite_37 (by decide) (by decide) ?_
    refine cr_bipush (pc := 44) (v := nI 8) C dX4_breachesOfWrite_44 (by decide) ?_
    refine cr_ior (pc := 46) C dX4_breachesOfWrite_46 ?_
    refine cr_ireturn (pc := 47) C X dX4_breachesOfWrite_47 ?_
    exact ⟨by unfold cg_uW; rw [h1, h2]; rfl, rfl⟩
  · refine cg_S_of (cc := cX4_breachesOfWrite) (maxL := 4) (ret := (some .int)) (ls0 := [some (.inr (.inr (4, 0, 0, 0))), some (.inl (nI c)), some (.inl (nI r)), none]) RX4 rfl (by decide) rfl rfl (Nat.le_of_ble_eq_true rfl) (fun E C X => ?_)
    refine cr_sipush (pc := 0) (v := nI 313) C dX4_breachesOfWrite_0 (by decide) ?_
    refine cr_bipush (pc := 3) (v := nI 7) C dX4_breachesOfWrite_3 (by decide) ?_
    refine cr_iload_n (pc := 5) C dX4_breachesOfWrite_5 rfl ?_
    refine cr_imul_n (pc := 6) C dX4_breachesOfWrite_6 ?_
    refine cr_iadd_n (pc := 7) C dX4_breachesOfWrite_7 ?_
    refine cr_istore_n3 (pc := 8) C dX4_breachesOfWrite_8 (by decide) rfl ?_
    refine cr_aload_n (pc := 9) C dX4_breachesOfWrite_9 rfl ?_
    refine cr_iconst (pc := 10) (v := nI 3) C dX4_breachesOfWrite_10 (by decide) ?_
    refine cr_iload_n (pc := 11) C dX4_breachesOfWrite_11 rfl ?_
    refine cr_imul_n (pc := 12) C dX4_breachesOfWrite_12 ?_
    refine cr_iload_n (pc := 13) C dX4_breachesOfWrite_13 rfl ?_
    refine cr_iconst (pc := 14) (v := nI 1) C dX4_breachesOfWrite_14 (by decide) ?_
    refine cr_iadd_n (pc := 15) C dX4_breachesOfWrite_15 ?_
    refine cr_dV (pc := 16) C (sm_covers (by omega) (by omega)) rfl gX4_breachesOfWrite_X4_covers rfl dX4_breachesOfWrite_16 (by first | rfl | assumption | (simp [cg_ok]; omega)) rfl hvX4_covers rfl ⟨rfl, rfl, Nat.le_of_ble_eq_true rfl, Nat.le_of_ble_eq_true rfl⟩ (Nat.le_of_ble_eq_true rfl) rfl ?_
    rw [show 313 + 7 * c + 1 = 314 + 7 * c by omega, cg_cv_cs hI hr, h1]
    refine cr_if_eq_t (pc := 19) (tgt := 26) C dX4_breachesOfWrite_19 (by decide) (by decide) ?_
    refine cr_iconst (pc := 26) (v := nI 4) C dX4_breachesOfWrite_26 (by decide) ?_
    refine cr_aload_n (pc := 27) C dX4_breachesOfWrite_27 rfl ?_
    refine cr_iconst (pc := 28) (v := nI 3) C dX4_breachesOfWrite_28 (by decide) ?_
    refine cr_iload_n (pc := 29) C dX4_breachesOfWrite_29 rfl ?_
    refine cr_imul_n (pc := 30) C dX4_breachesOfWrite_30 ?_
    refine cr_iload_n (pc := 31) C dX4_breachesOfWrite_31 rfl ?_
    refine cr_iconst (pc := 32) (v := nI 4) C dX4_breachesOfWrite_32 (by decide) ?_
    refine cr_iadd_n (pc := 33) C dX4_breachesOfWrite_33 ?_
    refine cr_dV (pc := 34) C (sm_covers (by omega) (by omega)) rfl gX4_breachesOfWrite_X4_covers rfl dX4_breachesOfWrite_34 (by first | rfl | assumption | (simp [cg_ok]; omega)) rfl hvX4_covers rfl ⟨rfl, rfl, Nat.le_of_ble_eq_true rfl, Nat.le_of_ble_eq_true rfl⟩ (Nat.le_of_ble_eq_true rfl) rfl ?_
    rw [show 313 + 7 * c + 4 = 317 + 7 * c by omega, cg_cv_cs hI hr, h2]
    refine cr_if_eq_f (pc := 37) (tgt := 44) C dX4_breachesOfWrite_37 (by decide) (by decide) ?_
    refine cr_iconst (pc := 40) (v := nI 0) C dX4_breachesOfWrite_40 (by decide) ?_
    refine cr_goto (pc := 41) (tgt := 46) C dX4_breachesOfWrite_41 (by decide) ?_
    refine cr_ior (pc := 46) C dX4_breachesOfWrite_46 ?_
    refine cr_ireturn (pc := 47) C X dX4_breachesOfWrite_47 ?_
    exact ⟨by unfold cg_uW; rw [h1, h2]; rfl, rfl⟩
  · refine cg_S_of (cc := cX4_breachesOfWrite) (maxL := 4) (ret := (some .int)) (ls0 := [some (.inr (.inr (4, 0, 0, 0))), some (.inl (nI c)), some (.inl (nI r)), none]) RX4 rfl (by decide) rfl rfl (Nat.le_of_ble_eq_true rfl) (fun E C X => ?_)
    refine cr_sipush (pc := 0) (v := nI 313) C dX4_breachesOfWrite_0 (by decide) ?_
    refine cr_bipush (pc := 3) (v := nI 7) C dX4_breachesOfWrite_3 (by decide) ?_
    refine cr_iload_n (pc := 5) C dX4_breachesOfWrite_5 rfl ?_
    refine cr_imul_n (pc := 6) C dX4_breachesOfWrite_6 ?_
    refine cr_iadd_n (pc := 7) C dX4_breachesOfWrite_7 ?_
    refine cr_istore_n3 (pc := 8) C dX4_breachesOfWrite_8 (by decide) rfl ?_
    refine cr_aload_n (pc := 9) C dX4_breachesOfWrite_9 rfl ?_
    refine cr_iconst (pc := 10) (v := nI 3) C dX4_breachesOfWrite_10 (by decide) ?_
    refine cr_iload_n (pc := 11) C dX4_breachesOfWrite_11 rfl ?_
    refine cr_imul_n (pc := 12) C dX4_breachesOfWrite_12 ?_
    refine cr_iload_n (pc := 13) C dX4_breachesOfWrite_13 rfl ?_
    refine cr_iconst (pc := 14) (v := nI 1) C dX4_breachesOfWrite_14 (by decide) ?_
    refine cr_iadd_n (pc := 15) C dX4_breachesOfWrite_15 ?_
    refine cr_dV (pc := 16) C (sm_covers (by omega) (by omega)) rfl gX4_breachesOfWrite_X4_covers rfl dX4_breachesOfWrite_16 (by first | rfl | assumption | (simp [cg_ok]; omega)) rfl hvX4_covers rfl ⟨rfl, rfl, Nat.le_of_ble_eq_true rfl, Nat.le_of_ble_eq_true rfl⟩ (Nat.le_of_ble_eq_true rfl) rfl ?_
    rw [show 313 + 7 * c + 1 = 314 + 7 * c by omega, cg_cv_cs hI hr, h1]
    refine cr_if_eq_f (pc := 19) (tgt := 26) C dX4_breachesOfWrite_19 (by decide) (by decide) ?_
    refine cr_iconst (pc := 22) (v := nI 0) C dX4_breachesOfWrite_22 (by decide) ?_
    refine cr_goto (pc := 23) (tgt := 27) C dX4_breachesOfWrite_23 (by decide) ?_
    refine cr_aload_n (pc := 27) C dX4_breachesOfWrite_27 rfl ?_
    refine cr_iconst (pc := 28) (v := nI 3) C dX4_breachesOfWrite_28 (by decide) ?_
    refine cr_iload_n (pc := 29) C dX4_breachesOfWrite_29 rfl ?_
    refine cr_imul_n (pc := 30) C dX4_breachesOfWrite_30 ?_
    refine cr_iload_n (pc := 31) C dX4_breachesOfWrite_31 rfl ?_
    refine cr_iconst (pc := 32) (v := nI 4) C dX4_breachesOfWrite_32 (by decide) ?_
    refine cr_iadd_n (pc := 33) C dX4_breachesOfWrite_33 ?_
    refine cr_dV (pc := 34) C (sm_covers (by omega) (by omega)) rfl gX4_breachesOfWrite_X4_covers rfl dX4_breachesOfWrite_34 (by first | rfl | assumption | (simp [cg_ok]; omega)) rfl hvX4_covers rfl ⟨rfl, rfl, Nat.le_of_ble_eq_true rfl, Nat.le_of_ble_eq_true rfl⟩ (Nat.le_of_ble_eq_true rfl) rfl ?_
    rw [show 313 + 7 * c + 4 = 317 + 7 * c by omega, cg_cv_cs hI hr, h2]
    refine cr_if_eq_t (pc := 37) (tgt := 44) C dX4_breachesOfWrite_37 (by decide) (by decide) ?_
    refine cr_bipush (pc := 44) (v := nI 8) C dX4_breachesOfWrite_44 (by decide) ?_
    refine cr_ior (pc := 46) C dX4_breachesOfWrite_46 ?_
    refine cr_ireturn (pc := 47) C X dX4_breachesOfWrite_47 ?_
    exact ⟨by unfold cg_uW; rw [h1, h2]; rfl, rfl⟩
  · refine cg_S_of (cc := cX4_breachesOfWrite) (maxL := 4) (ret := (some .int)) (ls0 := [some (.inr (.inr (4, 0, 0, 0))), some (.inl (nI c)), some (.inl (nI r)), none]) RX4 rfl (by decide) rfl rfl (Nat.le_of_ble_eq_true rfl) (fun E C X => ?_)
    refine cr_sipush (pc := 0) (v := nI 313) C dX4_breachesOfWrite_0 (by decide) ?_
    refine cr_bipush (pc := 3) (v := nI 7) C dX4_breachesOfWrite_3 (by decide) ?_
    refine cr_iload_n (pc := 5) C dX4_breachesOfWrite_5 rfl ?_
    refine cr_imul_n (pc := 6) C dX4_breachesOfWrite_6 ?_
    refine cr_iadd_n (pc := 7) C dX4_breachesOfWrite_7 ?_
    refine cr_istore_n3 (pc := 8) C dX4_breachesOfWrite_8 (by decide) rfl ?_
    refine cr_aload_n (pc := 9) C dX4_breachesOfWrite_9 rfl ?_
    refine cr_iconst (pc := 10) (v := nI 3) C dX4_breachesOfWrite_10 (by decide) ?_
    refine cr_iload_n (pc := 11) C dX4_breachesOfWrite_11 rfl ?_
    refine cr_imul_n (pc := 12) C dX4_breachesOfWrite_12 ?_
    refine cr_iload_n (pc := 13) C dX4_breachesOfWrite_13 rfl ?_
    refine cr_iconst (pc := 14) (v := nI 1) C dX4_breachesOfWrite_14 (by decide) ?_
    refine cr_iadd_n (pc := 15) C dX4_breachesOfWrite_15 ?_
    refine cr_dV (pc := 16) C (sm_covers (by omega) (by omega)) rfl gX4_breachesOfWrite_X4_covers rfl dX4_breachesOfWrite_16 (by first | rfl | assumption | (simp [cg_ok]; omega)) rfl hvX4_covers rfl ⟨rfl, rfl, Nat.le_of_ble_eq_true rfl, Nat.le_of_ble_eq_true rfl⟩ (Nat.le_of_ble_eq_true rfl) rfl ?_
    rw [show 313 + 7 * c + 1 = 314 + 7 * c by omega, cg_cv_cs hI hr, h1]
    refine cr_if_eq_f (pc := 19) (tgt := 26) C dX4_breachesOfWrite_19 (by decide) (by decide) ?_
    refine cr_iconst (pc := 22) (v := nI 0) C dX4_breachesOfWrite_22 (by decide) ?_
    refine cr_goto (pc := 23) (tgt := 27) C dX4_breachesOfWrite_23 (by decide) ?_
    refine cr_aload_n (pc := 27) C dX4_breachesOfWrite_27 rfl ?_
    refine cr_iconst (pc := 28) (v := nI 3) C dX4_breachesOfWrite_28 (by decide) ?_
    refine cr_iload_n (pc := 29) C dX4_breachesOfWrite_29 rfl ?_
    refine cr_imul_n (pc := 30) C dX4_breachesOfWrite_30 ?_
    refine cr_iload_n (pc := 31) C dX4_breachesOfWrite_31 rfl ?_
    refine cr_iconst (pc := 32) (v := nI 4) C dX4_breachesOfWrite_32 (by decide) ?_
    refine cr_iadd_n (pc := 33) C dX4_breachesOfWrite_33 ?_
    refine cr_dV (pc := 34) C (sm_covers (by omega) (by omega)) rfl gX4_breachesOfWrite_X4_covers rfl dX4_breachesOfWrite_34 (by first | rfl | assumption | (simp [cg_ok]; omega)) rfl hvX4_covers rfl ⟨rfl, rfl, Nat.le_of_ble_eq_true rfl, Nat.le_of_ble_eq_true rfl⟩ (Nat.le_of_ble_eq_true rfl) rfl ?_
    rw [show 313 + 7 * c + 4 = 317 + 7 * c by omega, cg_cv_cs hI hr, h2]
    refine cr_if_eq_f (pc := 37) (tgt := 44) C dX4_breachesOfWrite_37 (by decide) (by decide) ?_
    refine cr_iconst (pc := 40) (v := nI 0) C dX4_breachesOfWrite_40 (by decide) ?_
    refine cr_goto (pc := 41) (tgt := 46) C dX4_breachesOfWrite_41 (by decide) ?_
    refine cr_ior (pc := 46) C dX4_breachesOfWrite_46 ?_
    refine cr_ireturn (pc := 47) C X dX4_breachesOfWrite_47 ?_
    exact ⟨by unfold cg_uW; rw [h1, h2]; rfl, rfl⟩
set_option maxRecDepth 100000 in
set_option maxHeartbeats 4000000 in
theorem sm_cb {M : cg_M} {P : Nat → Int32} {u : Nat} (hu : u < 16) : cg_D yX4_countsBreaches wsX4_countsBreaches rmX4_countsBreaches [.inr (.inr (4, 0, 0, 0)), .inl (nI u)] (cg_sb M 20 P) (none) (cg_sb M 20 (cg_cb P u)) := by
  refine cg_S_of (cc := cX4_countsBreaches) (maxL := 3) (ret := none) (ls0 := [some (.inr (.inr (4, 0, 0, 0))), some (.inl (nI u)), none]) RX4 rfl (by decide) rfl rfl (Nat.le_of_ble_eq_true rfl) (fun E C X => ?_)
  refine cr_iconst (pc := 0) (v := nI 0) C dX4_countsBreaches_0 (by decide) ?_
  refine cr_istore_n2 (pc := 1) C dX4_countsBreaches_1 (by decide) rfl ?_
  refine cr_iload_n (pc := 2) C dX4_countsBreaches_2 rfl ?_
  refine cr_iconst (pc := 3) (v := nI 4) C dX4_countsBreaches_3 (by decide) ?_
  refine cr_icmp_ge_f (pc := 4) (tgt := 31) C dX4_countsBreaches_4 (by decide) (by decide) ?_
  refine cr_aload_n (pc := 7) C dX4_countsBreaches_7 rfl ?_
  refine cr_getr (pc := 8) (c := 4) (k := 0) C (by first | rfl | assumption | (simp [cg_ok]; omega)) rfl (by decide) rfl inX4_countsBreaches_X4 flX4_countsBreaches_7 dX4_countsBreaches_8 ?_
  refine cr_sipush (pc := 11) (v := nI 341) C dX4_countsBreaches_11 (by decide) ?_
  refine cr_iload_n (pc := 14) C dX4_countsBreaches_14 rfl ?_
  refine cr_iadd_n (pc := 15) C dX4_countsBreaches_15 ?_
  refine cr_dup2 (pc := 16) C dX4_countsBreaches_16 rfl rfl ?_
  refine cr_iaload (pc := 17) C rfl (by first | rfl | assumption | (simp [cg_ok]; omega)) (by decide) (by first | decide | omega) dX4_countsBreaches_17 ?_
  rw [cg_sb_s]
  refine cr_iload_n (pc := 18) C dX4_countsBreaches_18 rfl ?_
  refine cr_iload_n (pc := 19) C dX4_countsBreaches_19 rfl ?_
  refine cr_ishr (pc := 20) C dX4_countsBreaches_20 ?_
  refine cr_iconst (pc := 21) (v := nI 1) C dX4_countsBreaches_21 (by decide) ?_
  refine cr_iand (pc := 22) C dX4_countsBreaches_22 ?_
  refine cr_iadd (pc := 23) C dX4_countsBreaches_23 ?_
  refine cr_iastore (pc := 24) C rfl (by first | rfl | assumption | (simp [cg_ok]; omega)) (by decide) (by first | decide | omega) dX4_countsBreaches_24 ?_
  rw [cg_up_sb]
  rw [cg_bitc u hu 0 (by decide), cg_b1_eq]
  refine cr_iinc2 (pc := 25) (v := nI 1) C dX4_countsBreaches_25 (by decide) (by decide) rfl ?_
  refine cr_goto (pc := 28) (tgt := 2) C dX4_countsBreaches_28 (by decide) ?_
  refine cr_iload_n (pc := 2) C dX4_countsBreaches_2 rfl ?_
  refine cr_iconst (pc := 3) (v := nI 4) C dX4_countsBreaches_3 (by decide) ?_
  refine cr_icmp_ge_f (pc := 4) (tgt := 31) C dX4_countsBreaches_4 (by decide) (by decide) ?_
  refine cr_aload_n (pc := 7) C dX4_countsBreaches_7 rfl ?_
  refine cr_getr (pc := 8) (c := 4) (k := 0) C (by first | rfl | assumption | (simp [cg_ok]; omega)) rfl (by decide) rfl inX4_countsBreaches_X4 flX4_countsBreaches_7 dX4_countsBreaches_8 ?_
  refine cr_sipush (pc := 11) (v := nI 341) C dX4_countsBreaches_11 (by decide) ?_
  refine cr_iload_n (pc := 14) C dX4_countsBreaches_14 rfl ?_
  refine cr_iadd_n (pc := 15) C dX4_countsBreaches_15 ?_
  refine cr_dup2 (pc := 16) C dX4_countsBreaches_16 rfl rfl ?_
  refine cr_iaload (pc := 17) C rfl (by first | rfl | assumption | (simp [cg_ok]; omega)) (by decide) (by first | decide | omega) dX4_countsBreaches_17 ?_
  rw [cg_sb_s]
  refine cr_iload_n (pc := 18) C dX4_countsBreaches_18 rfl ?_
  refine cr_iload_n (pc := 19) C dX4_countsBreaches_19 rfl ?_
  refine cr_ishr (pc := 20) C dX4_countsBreaches_20 ?_
  refine cr_iconst (pc := 21) (v := nI 1) C dX4_countsBreaches_21 (by decide) ?_
  refine cr_iand (pc := 22) C dX4_countsBreaches_22 ?_
  refine cr_iadd (pc := 23) C dX4_countsBreaches_23 ?_
  refine cr_iastore (pc := 24) C rfl (by first | rfl | assumption | (simp [cg_ok]; omega)) (by decide) (by first | decide | omega) dX4_countsBreaches_24 ?_
  rw [cg_up_sb]
  rw [cg_bitc u hu 1 (by decide), cg_b1_eq]
  refine cr_iinc2 (pc := 25) (v := nI 2) C dX4_countsBreaches_25 (by decide) (by decide) rfl ?_
  refine cr_goto (pc := 28) (tgt := 2) C dX4_countsBreaches_28 (by decide) ?_
  refine cr_iload_n (pc := 2) C dX4_countsBreaches_2 rfl ?_
  refine cr_iconst (pc := 3) (v := nI 4) C dX4_countsBreaches_3 (by decide) ?_
  refine cr_icmp_ge_f (pc := 4) (tgt := 31) C dX4_countsBreaches_4 (by decide) (by decide) ?_
  refine cr_aload_n (pc := 7) C dX4_countsBreaches_7 rfl ?_
  refine cr_getr (pc := 8) (c := 4) (k := 0) C (by first | rfl | assumption | (simp [cg_ok]; omega)) rfl (by decide) rfl inX4_countsBreaches_X4 flX4_countsBreaches_7 dX4_countsBreaches_8 ?_
  refine cr_sipush (pc := 11) (v := nI 341) C dX4_countsBreaches_11 (by decide) ?_
  refine cr_iload_n (pc := 14) C dX4_countsBreaches_14 rfl ?_
  refine cr_iadd_n (pc := 15) C dX4_countsBreaches_15 ?_
  refine cr_dup2 (pc := 16) C dX4_countsBreaches_16 rfl rfl ?_
  refine cr_iaload (pc := 17) C rfl (by first | rfl | assumption | (simp [cg_ok]; omega)) (by decide) (by first | decide | omega) dX4_countsBreaches_17 ?_
  rw [cg_sb_s]
  refine cr_iload_n (pc := 18) C dX4_countsBreaches_18 rfl ?_
  refine cr_iload_n (pc := 19) C dX4_countsBreaches_19 rfl ?_
  refine cr_ishr (pc := 20) C dX4_countsBreaches_20 ?_
  refine cr_iconst (pc := 21) (v := nI 1) C dX4_countsBreaches_21 (by decide) ?_
  refine cr_iand (pc := 22) C dX4_countsBreaches_22 ?_
  refine cr_iadd (pc := 23) C dX4_countsBreaches_23 ?_
  refine cr_iastore (pc := 24) C rfl (by first | rfl | assumption | (simp [cg_ok]; omega)) (by decide) (by first | decide | omega) dX4_countsBreaches_24 ?_
  rw [cg_up_sb]
  rw [cg_bitc u hu 2 (by decide), cg_b1_eq]
  refine cr_iinc2 (pc := 25) (v := nI 3) C dX4_countsBreaches_25 (by decide) (by decide) rfl ?_
  refine cr_goto (pc := 28) (tgt := 2) C dX4_countsBreaches_28 (by decide) ?_
  refine cr_iload_n (pc := 2) C dX4_countsBreaches_2 rfl ?_
  refine cr_iconst (pc := 3) (v := nI 4) C dX4_countsBreaches_3 (by decide) ?_
  refine cr_icmp_ge_f (pc := 4) (tgt := 31) C dX4_countsBreaches_4 (by decide) (by decide) ?_
  refine cr_aload_n (pc := 7) C dX4_countsBreaches_7 rfl ?_
  refine cr_getr (pc := 8) (c := 4) (k := 0) C (by first | rfl | assumption | (simp [cg_ok]; omega)) rfl (by decide) rfl inX4_countsBreaches_X4 flX4_countsBreaches_7 dX4_countsBreaches_8 ?_
  refine cr_sipush (pc := 11) (v := nI 341) C dX4_countsBreaches_11 (by decide) ?_
  refine cr_iload_n (pc := 14) C dX4_countsBreaches_14 rfl ?_
  refine cr_iadd_n (pc := 15) C dX4_countsBreaches_15 ?_
  refine cr_dup2 (pc := 16) C dX4_countsBreaches_16 rfl rfl ?_
  refine cr_iaload (pc := 17) C rfl (by first | rfl | assumption | (simp [cg_ok]; omega)) (by decide) (by first | decide | omega) dX4_countsBreaches_17 ?_
  rw [cg_sb_s]
  refine cr_iload_n (pc := 18) C dX4_countsBreaches_18 rfl ?_
  refine cr_iload_n (pc := 19) C dX4_countsBreaches_19 rfl ?_
  refine cr_ishr (pc := 20) C dX4_countsBreaches_20 ?_
  refine cr_iconst (pc := 21) (v := nI 1) C dX4_countsBreaches_21 (by decide) ?_
  refine cr_iand (pc := 22) C dX4_countsBreaches_22 ?_
  refine cr_iadd (pc := 23) C dX4_countsBreaches_23 ?_
  refine cr_iastore (pc := 24) C rfl (by first | rfl | assumption | (simp [cg_ok]; omega)) (by decide) (by first | decide | omega) dX4_countsBreaches_24 ?_
  rw [cg_up_sb]
  rw [cg_bitc u hu 3 (by decide), cg_b1_eq]
  refine cr_iinc2 (pc := 25) (v := nI 4) C dX4_countsBreaches_25 (by decide) (by decide) rfl ?_
  refine cr_goto (pc := 28) (tgt := 2) C dX4_countsBreaches_28 (by decide) ?_
  refine cr_iload_n (pc := 2) C dX4_countsBreaches_2 rfl ?_
  refine cr_iconst (pc := 3) (v := nI 4) C dX4_countsBreaches_3 (by decide) ?_
  refine cr_icmp_ge_t (pc := 4) (tgt := 31) C dX4_countsBreaches_4 (by decide) (by decide) ?_
  refine cr_return (pc := 31) C X dX4_countsBreaches_31 ?_
  exact ⟨rfl, rfl⟩
set_option maxRecDepth 100000 in
set_option maxHeartbeats 4000000 in
theorem sm_isLater {M : cg_M} {P : Nat → Int32} {w o : Nat} (hw : w < 60) (ho : o < 60) : cg_D yX4_isLater wsX4_isLater rmX4_isLater [.inr (.inr (4, 0, 0, 0)), .inl (nI w), .inl (nI o)] (cg_sb M 20 P) (some (.inl (cg_b (cg_la P w o)))) ((cg_sb M 20 P)) := by
  refine cg_S_of (cc := cX4_isLater) (maxL := 5) (ret := (some .boolean)) (ls0 := [some (.inr (.inr (4, 0, 0, 0))), some (.inl (nI w)), some (.inl (nI o)), none, none]) RX4 rfl (by decide) rfl rfl (Nat.le_of_ble_eq_true rfl) (fun E C X => ?_)
  refine cr_bipush (pc := 0) (v := nI 13) C dX4_isLater_0 (by decide) ?_
  refine cr_iconst (pc := 2) (v := nI 5) C dX4_isLater_2 (by decide) ?_
  refine cr_iload_n (pc := 3) C dX4_isLater_3 rfl ?_
  refine cr_imul_n (pc := 4) C dX4_isLater_4 ?_
  refine cr_iadd_n (pc := 5) C dX4_isLater_5 ?_
  refine cr_istore_n3 (pc := 6) C dX4_isLater_6 (by decide) rfl ?_
  refine cr_bipush (pc := 7) (v := nI 13) C dX4_isLater_7 (by decide) ?_
  refine cr_iconst (pc := 9) (v := nI 5) C dX4_isLater_9 (by decide) ?_
  refine cr_iload_n (pc := 10) C dX4_isLater_10 rfl ?_
  refine cr_imul_n (pc := 11) C dX4_isLater_11 ?_
  refine cr_iadd_n (pc := 12) C dX4_isLater_12 ?_
  refine cr_istore4 (pc := 13) C dX4_isLater_13 (by decide) rfl ?_
  refine cr_aload_n (pc := 15) C dX4_isLater_15 rfl ?_
  refine cr_getr (pc := 16) (c := 4) (k := 0) C (by first | rfl | assumption | (simp [cg_ok]; omega)) rfl (by decide) rfl inX4_isLater_X4 flX4_isLater_7 dX4_isLater_16 ?_
  refine cr_iload_n (pc := 19) C dX4_isLater_19 rfl ?_
  refine cr_iconst (pc := 20) (v := nI 4) C dX4_isLater_20 (by decide) ?_
  refine cr_iadd_n (pc := 21) C dX4_isLater_21 ?_
  rw [show 13 + 5 * w + 4 = 17 + 5 * w by omega]
  refine cr_iaload (pc := 22) C rfl (by first | rfl | assumption | (simp [cg_ok]; omega)) (by omega) (by first | decide | omega) dX4_isLater_22 ?_
  rw [cg_sb_s]
  refine cr_aload_n (pc := 23) C dX4_isLater_23 rfl ?_
  refine cr_getr (pc := 24) (c := 4) (k := 0) C (by first | rfl | assumption | (simp [cg_ok]; omega)) rfl (by decide) rfl inX4_isLater_X4 flX4_isLater_7 dX4_isLater_24 ?_
  refine cr_iload (pc := 27) C dX4_isLater_27 rfl ?_
  refine cr_iconst (pc := 29) (v := nI 4) C dX4_isLater_29 (by decide) ?_
  refine cr_iadd_n (pc := 30) C dX4_isLater_30 ?_
  rw [show 13 + 5 * o + 4 = 17 + 5 * o by omega]
  refine cr_iaload (pc := 31) C rfl (by first | rfl | assumption | (simp [cg_ok]; omega)) (by omega) (by first | decide | omega) dX4_isLater_31 ?_
  rw [cg_sb_s]
  refine cr_icmp_gt (pc := 32) (tgt := 71) C dX4_isLater_32 (by decide) (fun h32 => ?_) (fun h32 => ?_)
  · refine cr_iconst (pc := 71) (v := nI 1) C dX4_isLater_71 (by decide) ?_
    refine cr_goto (pc := 72) (tgt := 76) C dX4_isLater_72 (by decide) ?_
    refine cr_zreturn (pc := 76) C X dX4_isLater_76 (by first | exact Or.inr rfl | exact Or.inl rfl | assumption) ?_
    have hz : cg_la P w o = true := by
      unfold cg_la
      simp_all [Int32.not_lt, Int32.not_le, Int32.lt_irrefl, Int32.le_refl]
    exact ⟨by rw [hz]; rfl, rfl⟩
  · refine cr_aload_n (pc := 35) C dX4_isLater_35 rfl ?_
    refine cr_getr (pc := 36) (c := 4) (k := 0) C (by first | rfl | assumption | (simp [cg_ok]; omega)) rfl (by decide) rfl inX4_isLater_X4 flX4_isLater_7 dX4_isLater_36 ?_
    refine cr_iload_n (pc := 39) C dX4_isLater_39 rfl ?_
    refine cr_iconst (pc := 40) (v := nI 4) C dX4_isLater_40 (by decide) ?_
    refine cr_iadd_n (pc := 41) C dX4_isLater_41 ?_
    rw [show 13 + 5 * w + 4 = 17 + 5 * w by omega]
    refine cr_iaload (pc := 42) C rfl (by first | rfl | assumption | (simp [cg_ok]; omega)) (by omega) (by first | decide | omega) dX4_isLater_42 ?_
    rw [cg_sb_s]
    refine cr_aload_n (pc := 43) C dX4_isLater_43 rfl ?_
    refine cr_getr (pc := 44) (c := 4) (k := 0) C (by first | rfl | assumption | (simp [cg_ok]; omega)) rfl (by decide) rfl inX4_isLater_X4 flX4_isLater_7 dX4_isLater_44 ?_
    refine cr_iload (pc := 47) C dX4_isLater_47 rfl ?_
    refine cr_iconst (pc := 49) (v := nI 4) C dX4_isLater_49 (by decide) ?_
    refine cr_iadd_n (pc := 50) C dX4_isLater_50 ?_
    rw [show 13 + 5 * o + 4 = 17 + 5 * o by omega]
    refine cr_iaload (pc := 51) C rfl (by first | rfl | assumption | (simp [cg_ok]; omega)) (by omega) (by first | decide | omega) dX4_isLater_51 ?_
    rw [cg_sb_s]
    refine cr_icmp_ne (pc := 52) (tgt := 75) C dX4_isLater_52 (by decide) (fun h52 => ?_) (fun h52 => ?_)
    · refine cr_iconst (pc := 75) (v := nI 0) C dX4_isLater_75 (by decide) ?_
      refine cr_zreturn (pc := 76) C X dX4_isLater_76 (by first | exact Or.inr rfl | exact Or.inl rfl | assumption) ?_
      have hz : cg_la P w o = false := by
        unfold cg_la
        simp_all [Int32.not_lt, Int32.not_le, Int32.lt_irrefl, Int32.le_refl]
      exact ⟨by rw [hz]; rfl, rfl⟩
    · refine cr_aload_n (pc := 55) C dX4_isLater_55 rfl ?_
      refine cr_getr (pc := 56) (c := 4) (k := 0) C (by first | rfl | assumption | (simp [cg_ok]; omega)) rfl (by decide) rfl inX4_isLater_X4 flX4_isLater_7 dX4_isLater_56 ?_
      refine cr_iload_n (pc := 59) C dX4_isLater_59 rfl ?_
      refine cr_iaload (pc := 60) C rfl (by first | rfl | assumption | (simp [cg_ok]; omega)) (by omega) (by first | decide | omega) dX4_isLater_60 ?_
      rw [cg_sb_s]
      refine cr_aload_n (pc := 61) C dX4_isLater_61 rfl ?_
      refine cr_getr (pc := 62) (c := 4) (k := 0) C (by first | rfl | assumption | (simp [cg_ok]; omega)) rfl (by decide) rfl inX4_isLater_X4 flX4_isLater_7 dX4_isLater_62 ?_
      refine cr_iload (pc := 65) C dX4_isLater_65 rfl ?_
      refine cr_iaload (pc := 67) C rfl (by first | rfl | assumption | (simp [cg_ok]; omega)) (by omega) (by first | decide | omega) dX4_isLater_67 ?_
      rw [cg_sb_s]
      refine cr_icmp_le (pc := 68) (tgt := 75) C dX4_isLater_68 (by decide) (fun h68 => ?_) (fun h68 => ?_)
      · refine cr_iconst (pc := 75) (v := nI 0) C dX4_isLater_75 (by decide) ?_
        refine cr_zreturn (pc := 76) C X dX4_isLater_76 (by first | exact Or.inr rfl | exact Or.inl rfl | assumption) ?_
        have hz : cg_la P w o = false := by
          unfold cg_la
          simp_all [Int32.not_lt, Int32.not_le, Int32.lt_irrefl, Int32.le_refl]
        exact ⟨by rw [hz]; rfl, rfl⟩
      · refine cr_iconst (pc := 71) (v := nI 1) C dX4_isLater_71 (by decide) ?_
        refine cr_goto (pc := 72) (tgt := 76) C dX4_isLater_72 (by decide) ?_
        refine cr_zreturn (pc := 76) C X dX4_isLater_76 (by first | exact Or.inr rfl | exact Or.inl rfl | assumption) ?_
        have hz : cg_la P w o = true := by
          unfold cg_la
          simp_all [Int32.not_lt, Int32.not_le, Int32.lt_irrefl, Int32.le_refl]
        exact ⟨by rw [hz]; rfl, rfl⟩
