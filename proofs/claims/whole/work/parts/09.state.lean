/-! ===== State: reads ===== -/
theorem cg_le_b {p : Prop} [Decidable p] (h : p) : cg_b (decide p) = nI 1 := by simp [cg_b, h]
theorem cg_nle_b {p : Prop} [Decidable p] (h : ¬ p) : cg_b (decide p) = nI 0 := by simp [cg_b, h]
set_option maxRecDepth 100000 in
set_option maxHeartbeats 4000000 in
theorem sp_knows {M : cg_M} {P : Nat → Int32} {r w o : Nat} (hr : r < 3) (hw : w < 60) (ho : o < 3) (ho2 : P (13 + 5 * w) = nI o) : cg_D yX2_knows wsX2_knows rmX2_knows [.inr (.inr (0, 0, 0, 0)), .inl (nI r), .inl (nI w)] (cg_sb M 0 P) (some (.inl (cg_b (cg_kn P r w)))) ((cg_sb M 0 P)) := by
  refine cg_S_of (cc := cX2_knows) (maxL := 3) (ret := (some .boolean)) (ls0 := [some (.inr (.inr (0, 0, 0, 0))), some (.inl (nI r)), some (.inl (nI w))]) RX2 rfl (by decide) rfl rfl (Nat.le_of_ble_eq_true rfl) (fun E C X => ?_)
  refine cr_aload_n (pc := 0) C dX2_knows_0 rfl ?_
  refine cr_getr (pc := 1) (c := 2) (k := 2) C (by first | rfl | assumption | (simp [cg_ok]; omega)) rfl (by decide) rfl inX2_knows_X2 flX2_knows_19 dX2_knows_1 ?_
  refine cr_iload_n (pc := 4) C dX2_knows_4 rfl ?_
  refine cr_iaload (pc := 5) C rfl (by first | rfl | assumption | (simp [cg_ok]; omega)) (by omega) (by first | decide | omega) dX2_knows_5 ?_
  rw [cg_sb_s]
  refine cr_aload_n (pc := 6) C dX2_knows_6 rfl ?_
  refine cr_getr (pc := 7) (c := 2) (k := 6) C (by first | rfl | assumption | (simp [cg_ok]; omega)) rfl (by decide) rfl inX2_knows_X2 flX2_knows_33 dX2_knows_7 ?_
  refine cr_iload_n (pc := 10) C dX2_knows_10 rfl ?_
  refine cr_aaload (pc := 11) C rfl (by first | rfl | assumption | (simp [cg_ok]; omega)) (by omega) (by first | decide | omega) dX2_knows_11 ?_
  refine cr_aload_n (pc := 12) C dX2_knows_12 rfl ?_
  refine cr_getr (pc := 13) (c := 2) (k := 1) C (by first | rfl | assumption | (simp [cg_ok]; omega)) rfl (by decide) rfl inX2_knows_X2 flX2_knows_15 dX2_knows_13 ?_
  refine cr_iload_n (pc := 16) C dX2_knows_16 rfl ?_
  refine cr_iaload (pc := 17) C rfl (by first | rfl | assumption | (simp [cg_ok]; omega)) (by omega) (by first | decide | omega) dX2_knows_17 ?_
  rw [cg_sb_s]
  rw [ho2]
  refine cr_iaload (pc := 18) C rfl (by first | rfl | assumption | (simp [cg_ok]; omega)) (by omega) (by first | decide | omega) dX2_knows_18 ?_
  rw [cg_sb_s]
  refine cr_icmp_gt (pc := 19) (tgt := 26) C dX2_knows_19 (by decide) (fun h19 => ?_) (fun h19 => ?_)
  · refine cr_iconst (pc := 26) (v := nI 0) C dX2_knows_26 (by decide) ?_
    refine cr_zreturn (pc := 27) C X dX2_knows_27 (by first | exact Or.inr rfl | exact Or.inl rfl | assumption) ?_
    refine ⟨?_, rfl⟩
    unfold cg_kn
    rw [ho2, cg_clamp (by omega)]
    first | rw [cg_le_b (Int32.not_lt.mp h19)] | rw [cg_nle_b (Int32.not_le.mpr h19)]
  · refine cr_iconst (pc := 22) (v := nI 1) C dX2_knows_22 (by decide) ?_
    refine cr_goto (pc := 23) (tgt := 27) C dX2_knows_23 (by decide) ?_
    refine cr_zreturn (pc := 27) C X dX2_knows_27 (by first | exact Or.inr rfl | exact Or.inl rfl | assumption) ?_
    refine ⟨?_, rfl⟩
    unfold cg_kn
    rw [ho2, cg_clamp (by omega)]
    first | rw [cg_le_b (Int32.not_lt.mp h19)] | rw [cg_nle_b (Int32.not_le.mpr h19)]
set_option maxRecDepth 100000 in
set_option maxHeartbeats 4000000 in
theorem sp_isLater {M : cg_M} {P : Nat → Int32} {w o : Nat} (hw : w < 60) (ho : o < 60) : cg_D yX2_isLater wsX2_isLater rmX2_isLater [.inr (.inr (0, 0, 0, 0)), .inl (nI w), .inl (nI o)] (cg_sb M 0 P) (some (.inl (cg_b (cg_la P w o)))) ((cg_sb M 0 P)) := by
  refine cg_S_of (cc := cX2_isLater) (maxL := 3) (ret := (some .boolean)) (ls0 := [some (.inr (.inr (0, 0, 0, 0))), some (.inl (nI w)), some (.inl (nI o))]) RX2 rfl (by decide) rfl rfl (Nat.le_of_ble_eq_true rfl) (fun E C X => ?_)
  refine cr_aload_n (pc := 0) C dX2_isLater_0 rfl ?_
  refine cr_getr (pc := 1) (c := 2) (k := 5) C (by first | rfl | assumption | (simp [cg_ok]; omega)) rfl (by decide) rfl inX2_isLater_X2 flX2_isLater_28 dX2_isLater_1 ?_
  refine cr_iload_n (pc := 4) C dX2_isLater_4 rfl ?_
  refine cr_iaload (pc := 5) C rfl (by first | rfl | assumption | (simp [cg_ok]; omega)) (by omega) (by first | decide | omega) dX2_isLater_5 ?_
  rw [cg_sb_s]
  refine cr_aload_n (pc := 6) C dX2_isLater_6 rfl ?_
  refine cr_getr (pc := 7) (c := 2) (k := 5) C (by first | rfl | assumption | (simp [cg_ok]; omega)) rfl (by decide) rfl inX2_isLater_X2 flX2_isLater_28 dX2_isLater_7 ?_
  refine cr_iload_n (pc := 10) C dX2_isLater_10 rfl ?_
  refine cr_iaload (pc := 11) C rfl (by first | rfl | assumption | (simp [cg_ok]; omega)) (by omega) (by first | decide | omega) dX2_isLater_11 ?_
  rw [cg_sb_s]
  refine cr_icmp_eq (pc := 12) (tgt := 36) C dX2_isLater_12 (by decide) (fun h12 => ?_) (fun h12 => ?_)
  · refine cr_aload_n (pc := 36) C dX2_isLater_36 rfl ?_
    refine cr_getr (pc := 37) (c := 2) (k := 1) C (by first | rfl | assumption | (simp [cg_ok]; omega)) rfl (by decide) rfl inX2_isLater_X2 flX2_isLater_15 dX2_isLater_37 ?_
    refine cr_iload_n (pc := 40) C dX2_isLater_40 rfl ?_
    refine cr_iaload (pc := 41) C rfl (by first | rfl | assumption | (simp [cg_ok]; omega)) (by omega) (by first | decide | omega) dX2_isLater_41 ?_
    rw [cg_sb_s]
    refine cr_aload_n (pc := 42) C dX2_isLater_42 rfl ?_
    refine cr_getr (pc := 43) (c := 2) (k := 1) C (by first | rfl | assumption | (simp [cg_ok]; omega)) rfl (by decide) rfl inX2_isLater_X2 flX2_isLater_15 dX2_isLater_43 ?_
    refine cr_iload_n (pc := 46) C dX2_isLater_46 rfl ?_
    refine cr_iaload (pc := 47) C rfl (by first | rfl | assumption | (simp [cg_ok]; omega)) (by omega) (by first | decide | omega) dX2_isLater_47 ?_
    rw [cg_sb_s]
    refine cr_icmp_le (pc := 48) (tgt := 55) C dX2_isLater_48 (by decide) (fun h48 => ?_) (fun h48 => ?_)
    · refine cr_iconst (pc := 55) (v := nI 0) C dX2_isLater_55 (by decide) ?_
      refine cr_zreturn (pc := 56) C X dX2_isLater_56 (by first | exact Or.inr rfl | exact Or.inl rfl | assumption) ?_
      have hz : cg_la P w o = false := by
        unfold cg_la
        simp_all [Int32.not_lt, Int32.not_le, Int32.lt_irrefl, Int32.le_refl]
      exact ⟨by rw [hz]; rfl, rfl⟩
    · refine cr_iconst (pc := 51) (v := nI 1) C dX2_isLater_51 (by decide) ?_
      refine cr_goto (pc := 52) (tgt := 56) C dX2_isLater_52 (by decide) ?_
      refine cr_zreturn (pc := 56) C X dX2_isLater_56 (by first | exact Or.inr rfl | exact Or.inl rfl | assumption) ?_
      have hz : cg_la P w o = true := by
        unfold cg_la
        simp_all [Int32.not_lt, Int32.not_le, Int32.lt_irrefl, Int32.le_refl]
      exact ⟨by rw [hz]; rfl, rfl⟩
  · refine cr_aload_n (pc := 15) C dX2_isLater_15 rfl ?_
    refine cr_getr (pc := 16) (c := 2) (k := 5) C (by first | rfl | assumption | (simp [cg_ok]; omega)) rfl (by decide) rfl inX2_isLater_X2 flX2_isLater_28 dX2_isLater_16 ?_
    refine cr_iload_n (pc := 19) C dX2_isLater_19 rfl ?_
    refine cr_iaload (pc := 20) C rfl (by first | rfl | assumption | (simp [cg_ok]; omega)) (by omega) (by first | decide | omega) dX2_isLater_20 ?_
    rw [cg_sb_s]
    refine cr_aload_n (pc := 21) C dX2_isLater_21 rfl ?_
    refine cr_getr (pc := 22) (c := 2) (k := 5) C (by first | rfl | assumption | (simp [cg_ok]; omega)) rfl (by decide) rfl inX2_isLater_X2 flX2_isLater_28 dX2_isLater_22 ?_
    refine cr_iload_n (pc := 25) C dX2_isLater_25 rfl ?_
    refine cr_iaload (pc := 26) C rfl (by first | rfl | assumption | (simp [cg_ok]; omega)) (by omega) (by first | decide | omega) dX2_isLater_26 ?_
    rw [cg_sb_s]
    refine cr_icmp_le (pc := 27) (tgt := 34) C dX2_isLater_27 (by decide) (fun h27 => ?_) (fun h27 => ?_)
    · refine cr_iconst (pc := 34) (v := nI 0) C dX2_isLater_34 (by decide) ?_
      refine cr_zreturn (pc := 35) C X dX2_isLater_35 (by first | exact Or.inr rfl | exact Or.inl rfl | assumption) ?_
      have hz : cg_la P w o = false := by
        unfold cg_la
        simp_all [Int32.not_lt, Int32.not_le, Int32.lt_irrefl, Int32.le_refl]
      exact ⟨by rw [hz]; rfl, rfl⟩
    · refine cr_iconst (pc := 30) (v := nI 1) C dX2_isLater_30 (by decide) ?_
      refine cr_goto (pc := 31) (tgt := 35) C dX2_isLater_31 (by decide) ?_
      refine cr_zreturn (pc := 35) C X dX2_isLater_35 (by first | exact Or.inr rfl | exact Or.inl rfl | assumption) ?_
      have hz : cg_la P w o = true := by
        unfold cg_la
        simp_all [Int32.not_lt, Int32.not_le, Int32.lt_irrefl, Int32.le_refl]
      exact ⟨by rw [hz]; rfl, rfl⟩
set_option maxRecDepth 100000 in
set_option maxHeartbeats 4000000 in
theorem sp_greatestCount {M : cg_M} {P : Nat → Int32} {s o : Nat} (hs : s < 16) (ho : o < 3) : cg_D yX2_greatestCount wsX2_greatestCount rmX2_greatestCount [.inr (.inr (0, 0, 0, 0)), .inl (nI s), .inl (nI o)] (cg_sb M 0 P) (some (.inl (cg_gc P s o))) (cg_sb M 0 P) := by
  refine cg_S_of (cc := cX2_greatestCount) (maxL := 5) (ret := (some .int)) (ls0 := [some (.inr (.inr (0, 0, 0, 0))), some (.inl (nI s)), some (.inl (nI o)), none, none]) RX2 rfl (by decide) rfl rfl (Nat.le_of_ble_eq_true rfl) (fun E C X => ?_)
  have hK3 : ∀ a : Int32, a = cg_gc P s o → cg_W E (cg_sb M 0 P) 5 [some (.inr (.inr (0, 0, 0, 0))), some (.inl (nI s)), some (.inl (nI o)), some (.inl a), some (.inl (nI 3))] [] := by
    intro a ha
    refine cr_iload (pc := 5) C dX2_greatestCount_5 rfl ?_
    refine cr_iconst (pc := 7) (v := nI 3) C dX2_greatestCount_7 (by decide) ?_
    refine cr_icmp_ge_t (pc := 8) (tgt := 40) C dX2_greatestCount_8 (by decide) (by decide) ?_
    refine cr_iload_n (pc := 40) C dX2_greatestCount_40 rfl ?_
    refine cr_ireturn (pc := 41) C X dX2_greatestCount_41 ?_
    exact ⟨by rw [ha], rfl⟩
  have hK2 : ∀ a : Int32, (cg_g1 P s o 2 a) = cg_gc P s o → cg_W E (cg_sb M 0 P) 5 [some (.inr (.inr (0, 0, 0, 0))), some (.inl (nI s)), some (.inl (nI o)), some (.inl a), some (.inl (nI 2))] [] := by
    intro a ha
    cases hb : Nat.testBit s 2
    · refine cr_iload (pc := 5) C dX2_greatestCount_5 rfl ?_
      refine cr_iconst (pc := 7) (v := nI 3) C dX2_greatestCount_7 (by decide) ?_
      refine cr_icmp_ge_f (pc := 8) (tgt := 40) C dX2_greatestCount_8 (by decide) (by decide) ?_
      refine cr_iload_n (pc := 11) C dX2_greatestCount_11 rfl ?_
      refine cr_iload (pc := 12) C dX2_greatestCount_12 rfl ?_
      refine cr_dN (pc := 14) C (sp_contains hs (by decide)) rfl gX2_greatestCount_X3_contains_n109 rfl dX2_greatestCount_14 neX3_contains isX2_greatestCount_X3_contains hsX3_contains rfl ⟨rfl, rfl, Nat.le_of_ble_eq_true rfl, Nat.le_of_ble_eq_true rfl⟩ (Nat.le_of_ble_eq_true rfl) rfl ?_
      rw [hb]
      refine cr_if_eq_t (pc := 17) (tgt := 34) C dX2_greatestCount_17 (by decide) (by decide) ?_
      refine cr_iinc4 (pc := 34) (v := nI 3) C dX2_greatestCount_34 (by decide) (by decide) rfl ?_
      refine cr_goto (pc := 37) (tgt := 5) C dX2_greatestCount_37 (by decide) ?_
      exact hK3 _ (by rw [← ha]; simp [cg_g1, cg_mx, hb])
    · refine cr_iload (pc := 5) C dX2_greatestCount_5 rfl ?_
      refine cr_iconst (pc := 7) (v := nI 3) C dX2_greatestCount_7 (by decide) ?_
      refine cr_icmp_ge_f (pc := 8) (tgt := 40) C dX2_greatestCount_8 (by decide) (by decide) ?_
      refine cr_iload_n (pc := 11) C dX2_greatestCount_11 rfl ?_
      refine cr_iload (pc := 12) C dX2_greatestCount_12 rfl ?_
      refine cr_dN (pc := 14) C (sp_contains hs (by decide)) rfl gX2_greatestCount_X3_contains_n109 rfl dX2_greatestCount_14 neX3_contains isX2_greatestCount_X3_contains hsX3_contains rfl ⟨rfl, rfl, Nat.le_of_ble_eq_true rfl, Nat.le_of_ble_eq_true rfl⟩ (Nat.le_of_ble_eq_true rfl) rfl ?_
      rw [hb]
      refine cr_if_eq_f (pc := 17) (tgt := 34) C dX2_greatestCount_17 (by decide) (by decide) ?_
      refine cr_iload_n (pc := 20) C dX2_greatestCount_20 rfl ?_
      refine cr_aload_n (pc := 21) C dX2_greatestCount_21 rfl ?_
      refine cr_getr (pc := 22) (c := 2) (k := 6) C (by first | rfl | assumption | (simp [cg_ok]; omega)) rfl (by decide) rfl inX2_greatestCount_X2 flX2_greatestCount_33 dX2_greatestCount_22 ?_
      refine cr_iload (pc := 25) C dX2_greatestCount_25 rfl ?_
      refine cr_aaload (pc := 27) C rfl (by first | rfl | assumption | (simp [cg_ok]; omega)) (by decide) (by first | decide | omega) dX2_greatestCount_27 ?_
      refine cr_iload_n (pc := 28) C dX2_greatestCount_28 rfl ?_
      refine cr_iaload (pc := 29) C rfl (by first | rfl | assumption | (simp [cg_ok]; omega)) (by omega) (by first | decide | omega) dX2_greatestCount_29 ?_
      rw [cg_sb_s]
      refine cr_max (pc := 30) C dX2_greatestCount_30 mmX2_greatestCount_max ⟨Nat.le_of_ble_eq_true rfl, Nat.le_of_ble_eq_true rfl⟩ (Nat.le_of_ble_eq_true rfl) ?_
      refine cr_istore_n3 (pc := 33) C dX2_greatestCount_33 (by decide) rfl ?_
      refine cr_iinc4 (pc := 34) (v := nI 3) C dX2_greatestCount_34 (by decide) (by decide) rfl ?_
      refine cr_goto (pc := 37) (tgt := 5) C dX2_greatestCount_37 (by decide) ?_
      exact hK3 _ (by rw [← ha]; simp [cg_g1, cg_mx, hb])
  have hK1 : ∀ a : Int32, (cg_g1 P s o 2 (cg_g1 P s o 1 a)) = cg_gc P s o → cg_W E (cg_sb M 0 P) 5 [some (.inr (.inr (0, 0, 0, 0))), some (.inl (nI s)), some (.inl (nI o)), some (.inl a), some (.inl (nI 1))] [] := by
    intro a ha
    cases hb : Nat.testBit s 1
    · refine cr_iload (pc := 5) C dX2_greatestCount_5 rfl ?_
      refine cr_iconst (pc := 7) (v := nI 3) C dX2_greatestCount_7 (by decide) ?_
      refine cr_icmp_ge_f (pc := 8) (tgt := 40) C dX2_greatestCount_8 (by decide) (by decide) ?_
      refine cr_iload_n (pc := 11) C dX2_greatestCount_11 rfl ?_
      refine cr_iload (pc := 12) C dX2_greatestCount_12 rfl ?_
      refine cr_dN (pc := 14) C (sp_contains hs (by decide)) rfl gX2_greatestCount_X3_contains_n109 rfl dX2_greatestCount_14 neX3_contains isX2_greatestCount_X3_contains hsX3_contains rfl ⟨rfl, rfl, Nat.le_of_ble_eq_true rfl, Nat.le_of_ble_eq_true rfl⟩ (Nat.le_of_ble_eq_true rfl) rfl ?_
      rw [hb]
      refine cr_if_eq_t (pc := 17) (tgt := 34) C dX2_greatestCount_17 (by decide) (by decide) ?_
      refine cr_iinc4 (pc := 34) (v := nI 2) C dX2_greatestCount_34 (by decide) (by decide) rfl ?_
      refine cr_goto (pc := 37) (tgt := 5) C dX2_greatestCount_37 (by decide) ?_
      exact hK2 _ (by rw [← ha]; simp [cg_g1, cg_mx, hb])
    · refine cr_iload (pc := 5) C dX2_greatestCount_5 rfl ?_
      refine cr_iconst (pc := 7) (v := nI 3) C dX2_greatestCount_7 (by decide) ?_
      refine cr_icmp_ge_f (pc := 8) (tgt := 40) C dX2_greatestCount_8 (by decide) (by decide) ?_
      refine cr_iload_n (pc := 11) C dX2_greatestCount_11 rfl ?_
      refine cr_iload (pc := 12) C dX2_greatestCount_12 rfl ?_
      refine cr_dN (pc := 14) C (sp_contains hs (by decide)) rfl gX2_greatestCount_X3_contains_n109 rfl dX2_greatestCount_14 neX3_contains isX2_greatestCount_X3_contains hsX3_contains rfl ⟨rfl, rfl, Nat.le_of_ble_eq_true rfl, Nat.le_of_ble_eq_true rfl⟩ (Nat.le_of_ble_eq_true rfl) rfl ?_
      rw [hb]
      refine cr_if_eq_f (pc := 17) (tgt := 34) C dX2_greatestCount_17 (by decide) (by decide) ?_
      refine cr_iload_n (pc := 20) C dX2_greatestCount_20 rfl ?_
      refine cr_aload_n (pc := 21) C dX2_greatestCount_21 rfl ?_
      refine cr_getr (pc := 22) (c := 2) (k := 6) C (by first | rfl | assumption | (simp [cg_ok]; omega)) rfl (by decide) rfl inX2_greatestCount_X2 flX2_greatestCount_33 dX2_greatestCount_22 ?_
      refine cr_iload (pc := 25) C dX2_greatestCount_25 rfl ?_
      refine cr_aaload (pc := 27) C rfl (by first | rfl | assumption | (simp [cg_ok]; omega)) (by decide) (by first | decide | omega) dX2_greatestCount_27 ?_
      refine cr_iload_n (pc := 28) C dX2_greatestCount_28 rfl ?_
      refine cr_iaload (pc := 29) C rfl (by first | rfl | assumption | (simp [cg_ok]; omega)) (by omega) (by first | decide | omega) dX2_greatestCount_29 ?_
      rw [cg_sb_s]
      refine cr_max (pc := 30) C dX2_greatestCount_30 mmX2_greatestCount_max ⟨Nat.le_of_ble_eq_true rfl, Nat.le_of_ble_eq_true rfl⟩ (Nat.le_of_ble_eq_true rfl) ?_
      refine cr_istore_n3 (pc := 33) C dX2_greatestCount_33 (by decide) rfl ?_
      refine cr_iinc4 (pc := 34) (v := nI 2) C dX2_greatestCount_34 (by decide) (by decide) rfl ?_
      refine cr_goto (pc := 37) (tgt := 5) C dX2_greatestCount_37 (by decide) ?_
      exact hK2 _ (by rw [← ha]; simp [cg_g1, cg_mx, hb])
  have hK0 : ∀ a : Int32, (cg_g1 P s o 2 (cg_g1 P s o 1 (cg_g1 P s o 0 a))) = cg_gc P s o → cg_W E (cg_sb M 0 P) 5 [some (.inr (.inr (0, 0, 0, 0))), some (.inl (nI s)), some (.inl (nI o)), some (.inl a), some (.inl (nI 0))] [] := by
    intro a ha
    cases hb : Nat.testBit s 0
    · refine cr_iload (pc := 5) C dX2_greatestCount_5 rfl ?_
      refine cr_iconst (pc := 7) (v := nI 3) C dX2_greatestCount_7 (by decide) ?_
      refine cr_icmp_ge_f (pc := 8) (tgt := 40) C dX2_greatestCount_8 (by decide) (by decide) ?_
      refine cr_iload_n (pc := 11) C dX2_greatestCount_11 rfl ?_
      refine cr_iload (pc := 12) C dX2_greatestCount_12 rfl ?_
      refine cr_dN (pc := 14) C (sp_contains hs (by decide)) rfl gX2_greatestCount_X3_contains_n109 rfl dX2_greatestCount_14 neX3_contains isX2_greatestCount_X3_contains hsX3_contains rfl ⟨rfl, rfl, Nat.le_of_ble_eq_true rfl, Nat.le_of_ble_eq_true rfl⟩ (Nat.le_of_ble_eq_true rfl) rfl ?_
      rw [hb]
      refine cr_if_eq_t (pc := 17) (tgt := 34) C dX2_greatestCount_17 (by decide) (by decide) ?_
      refine cr_iinc4 (pc := 34) (v := nI 1) C dX2_greatestCount_34 (by decide) (by decide) rfl ?_
      refine cr_goto (pc := 37) (tgt := 5) C dX2_greatestCount_37 (by decide) ?_
      exact hK1 _ (by rw [← ha]; simp [cg_g1, cg_mx, hb])
    · refine cr_iload (pc := 5) C dX2_greatestCount_5 rfl ?_
      refine cr_iconst (pc := 7) (v := nI 3) C dX2_greatestCount_7 (by decide) ?_
      refine cr_icmp_ge_f (pc := 8) (tgt := 40) C dX2_greatestCount_8 (by decide) (by decide) ?_
      refine cr_iload_n (pc := 11) C dX2_greatestCount_11 rfl ?_
      refine cr_iload (pc := 12) C dX2_greatestCount_12 rfl ?_
      refine cr_dN (pc := 14) C (sp_contains hs (by decide)) rfl gX2_greatestCount_X3_contains_n109 rfl dX2_greatestCount_14 neX3_contains isX2_greatestCount_X3_contains hsX3_contains rfl ⟨rfl, rfl, Nat.le_of_ble_eq_true rfl, Nat.le_of_ble_eq_true rfl⟩ (Nat.le_of_ble_eq_true rfl) rfl ?_
      rw [hb]
      refine cr_if_eq_f (pc := 17) (tgt := 34) C dX2_greatestCount_17 (by decide) (by decide) ?_
      refine cr_iload_n (pc := 20) C dX2_greatestCount_20 rfl ?_
      refine cr_aload_n (pc := 21) C dX2_greatestCount_21 rfl ?_
      refine cr_getr (pc := 22) (c := 2) (k := 6) C (by first | rfl | assumption | (simp [cg_ok]; omega)) rfl (by decide) rfl inX2_greatestCount_X2 flX2_greatestCount_33 dX2_greatestCount_22 ?_
      refine cr_iload (pc := 25) C dX2_greatestCount_25 rfl ?_
      refine cr_aaload (pc := 27) C rfl (by first | rfl | assumption | (simp [cg_ok]; omega)) (by decide) (by first | decide | omega) dX2_greatestCount_27 ?_
      refine cr_iload_n (pc := 28) C dX2_greatestCount_28 rfl ?_
      refine cr_iaload (pc := 29) C rfl (by first | rfl | assumption | (simp [cg_ok]; omega)) (by omega) (by first | decide | omega) dX2_greatestCount_29 ?_
      rw [cg_sb_s]
      refine cr_max (pc := 30) C dX2_greatestCount_30 mmX2_greatestCount_max ⟨Nat.le_of_ble_eq_true rfl, Nat.le_of_ble_eq_true rfl⟩ (Nat.le_of_ble_eq_true rfl) ?_
      refine cr_istore_n3 (pc := 33) C dX2_greatestCount_33 (by decide) rfl ?_
      refine cr_iinc4 (pc := 34) (v := nI 1) C dX2_greatestCount_34 (by decide) (by decide) rfl ?_
      refine cr_goto (pc := 37) (tgt := 5) C dX2_greatestCount_37 (by decide) ?_
      exact hK1 _ (by rw [← ha]; simp [cg_g1, cg_mx, hb])
  refine cr_iconst (pc := 0) (v := nI 0) C dX2_greatestCount_0 (by decide) ?_
  refine cr_istore_n3 (pc := 1) C dX2_greatestCount_1 (by decide) rfl ?_
  refine cr_iconst (pc := 2) (v := nI 0) C dX2_greatestCount_2 (by decide) ?_
  refine cr_istore4 (pc := 3) C dX2_greatestCount_3 (by decide) rfl ?_
  exact hK0 _ rfl
set_option maxRecDepth 100000 in
set_option maxHeartbeats 4000000 in
theorem sp_covers {M : cg_M} {P : Nat → Int32} {s p : Nat} {q : cg_L} (hs : s < 16) (hq : cg_ok q = true) (ha : cg_ai q = some (0, 3, fun j => p + j)) : cg_D yX2_covers wsX2_covers rmX2_covers [.inr (.inr (0, 0, 0, 0)), .inl (nI s), .inr (.inr (q))] (cg_sb M 0 P) (some (.inl (cg_b (cg_cs P s p)))) ((cg_sb M 0 P)) := by
  refine cg_S_of (cc := cX2_covers) (maxL := 4) (ret := (some .boolean)) (ls0 := [some (.inr (.inr (0, 0, 0, 0))), some (.inl (nI s)), some (.inr (.inr (q))), none]) RX2 rfl (by decide) rfl rfl (Nat.le_of_ble_eq_true rfl) (fun E C X => ?_)
  refine cr_iconst (pc := 0) (v := nI 0) C dX2_covers_0 (by decide) ?_
  refine cr_istore_n3 (pc := 1) C dX2_covers_1 (by decide) rfl ?_
  refine cr_iload_n (pc := 2) C dX2_covers_2 rfl ?_
  refine cr_iconst (pc := 3) (v := nI 3) C dX2_covers_3 (by decide) ?_
  refine cr_icmp_ge_f (pc := 4) (tgt := 27) C dX2_covers_4 (by decide) (by decide) ?_
  refine cr_aload_n (pc := 7) C dX2_covers_7 rfl ?_
  refine cr_iload_n (pc := 8) C dX2_covers_8 rfl ?_
  refine cr_iaload (pc := 9) C (by first | exact ha | rfl) (by first | rfl | assumption | (simp [cg_ok]; omega)) (by decide) (by first | decide | omega) dX2_covers_9 ?_
  rw [cg_sb_s]
  refine cr_aload_n (pc := 10) C dX2_covers_10 rfl ?_
  refine cr_iload_n (pc := 11) C dX2_covers_11 rfl ?_
  refine cr_iload_n (pc := 12) C dX2_covers_12 rfl ?_
  refine cr_dV (pc := 13) C (sp_greatestCount hs (by decide)) rfl gX2_covers_X2_greatestCount rfl dX2_covers_13 (by first | rfl | assumption | (simp [cg_ok]; omega)) rfl hvX2_greatestCount rfl ⟨rfl, rfl, Nat.le_of_ble_eq_true rfl, Nat.le_of_ble_eq_true rfl⟩ (Nat.le_of_ble_eq_true rfl) rfl ?_
  refine cr_icmp_le (pc := 16) (tgt := 21) C dX2_covers_16 (by decide) (fun h16 => ?_) (fun h16 => ?_)
  · have g0 : decide (P p ≤ cg_gc P s 0) = true := decide_eq_true h16
    refine cr_iinc3 (pc := 21) (v := nI 1) C dX2_covers_21 (by decide) (by decide) rfl ?_
    refine cr_goto (pc := 24) (tgt := 2) C dX2_covers_24 (by decide) ?_
    refine cr_iload_n (pc := 2) C dX2_covers_2 rfl ?_
    refine cr_iconst (pc := 3) (v := nI 3) C dX2_covers_3 (by decide) ?_
    refine cr_icmp_ge_f (pc := 4) (tgt := 27) C dX2_covers_4 (by decide) (by decide) ?_
    refine cr_aload_n (pc := 7) C dX2_covers_7 rfl ?_
    refine cr_iload_n (pc := 8) C dX2_covers_8 rfl ?_
    refine cr_iaload (pc := 9) C (by first | exact ha | rfl) (by first | rfl | assumption | (simp [cg_ok]; omega)) (by decide) (by first | decide | omega) dX2_covers_9 ?_
    rw [cg_sb_s]
    refine cr_aload_n (pc := 10) C dX2_covers_10 rfl ?_
    refine cr_iload_n (pc := 11) C dX2_covers_11 rfl ?_
    refine cr_iload_n (pc := 12) C dX2_covers_12 rfl ?_
    refine cr_dV (pc := 13) C (sp_greatestCount hs (by decide)) rfl gX2_covers_X2_greatestCount rfl dX2_covers_13 (by first | rfl | assumption | (simp [cg_ok]; omega)) rfl hvX2_greatestCount rfl ⟨rfl, rfl, Nat.le_of_ble_eq_true rfl, Nat.le_of_ble_eq_true rfl⟩ (Nat.le_of_ble_eq_true rfl) rfl ?_
    refine cr_icmp_le (pc := 16) (tgt := 21) C dX2_covers_16 (by decide) (fun h16 => ?_) (fun h16 => ?_)
    · have g1 : decide (P (p + 1) ≤ cg_gc P s 1) = true := decide_eq_true h16
      refine cr_iinc3 (pc := 21) (v := nI 2) C dX2_covers_21 (by decide) (by decide) rfl ?_
      refine cr_goto (pc := 24) (tgt := 2) C dX2_covers_24 (by decide) ?_
      refine cr_iload_n (pc := 2) C dX2_covers_2 rfl ?_
      refine cr_iconst (pc := 3) (v := nI 3) C dX2_covers_3 (by decide) ?_
      refine cr_icmp_ge_f (pc := 4) (tgt := 27) C dX2_covers_4 (by decide) (by decide) ?_
      refine cr_aload_n (pc := 7) C dX2_covers_7 rfl ?_
      refine cr_iload_n (pc := 8) C dX2_covers_8 rfl ?_
      refine cr_iaload (pc := 9) C (by first | exact ha | rfl) (by first | rfl | assumption | (simp [cg_ok]; omega)) (by decide) (by first | decide | omega) dX2_covers_9 ?_
      rw [cg_sb_s]
      refine cr_aload_n (pc := 10) C dX2_covers_10 rfl ?_
      refine cr_iload_n (pc := 11) C dX2_covers_11 rfl ?_
      refine cr_iload_n (pc := 12) C dX2_covers_12 rfl ?_
      refine cr_dV (pc := 13) C (sp_greatestCount hs (by decide)) rfl gX2_covers_X2_greatestCount rfl dX2_covers_13 (by first | rfl | assumption | (simp [cg_ok]; omega)) rfl hvX2_greatestCount rfl ⟨rfl, rfl, Nat.le_of_ble_eq_true rfl, Nat.le_of_ble_eq_true rfl⟩ (Nat.le_of_ble_eq_true rfl) rfl ?_
      refine cr_icmp_le (pc := 16) (tgt := 21) C dX2_covers_16 (by decide) (fun h16 => ?_) (fun h16 => ?_)
      · have g2 : decide (P (p + 2) ≤ cg_gc P s 2) = true := decide_eq_true h16
        refine cr_iinc3 (pc := 21) (v := nI 3) C dX2_covers_21 (by decide) (by decide) rfl ?_
        refine cr_goto (pc := 24) (tgt := 2) C dX2_covers_24 (by decide) ?_
        refine cr_iload_n (pc := 2) C dX2_covers_2 rfl ?_
        refine cr_iconst (pc := 3) (v := nI 3) C dX2_covers_3 (by decide) ?_
        refine cr_icmp_ge_t (pc := 4) (tgt := 27) C dX2_covers_4 (by decide) (by decide) ?_
        refine cr_iconst (pc := 27) (v := nI 1) C dX2_covers_27 (by decide) ?_
        refine cr_zreturn (pc := 28) C X dX2_covers_28 (by first | exact Or.inr rfl | exact Or.inl rfl | assumption) ?_
        have hz : cg_cs P s p = true := by unfold cg_cs; simp only [*, decide_true, decide_false, Bool.false_and, Bool.and_false, Bool.and_self, Bool.true_and, Bool.and_true]
        exact ⟨by rw [hz]; rfl, rfl⟩
      · have g2 : decide (P (p + 2) ≤ cg_gc P s 2) = false := decide_eq_false h16
        refine cr_iconst (pc := 19) (v := nI 0) C dX2_covers_19 (by decide) ?_
        refine cr_zreturn (pc := 20) C X dX2_covers_20 (by first | exact Or.inr rfl | exact Or.inl rfl | assumption) ?_
        have hz : cg_cs P s p = false := by unfold cg_cs; simp only [*, decide_true, decide_false, Bool.false_and, Bool.and_false, Bool.and_self, Bool.true_and, Bool.and_true]
        exact ⟨by rw [hz]; rfl, rfl⟩
    · have g1 : decide (P (p + 1) ≤ cg_gc P s 1) = false := decide_eq_false h16
      refine cr_iconst (pc := 19) (v := nI 0) C dX2_covers_19 (by decide) ?_
      refine cr_zreturn (pc := 20) C X dX2_covers_20 (by first | exact Or.inr rfl | exact Or.inl rfl | assumption) ?_
      have hz : cg_cs P s p = false := by unfold cg_cs; simp only [*, decide_true, decide_false, Bool.false_and, Bool.and_false, Bool.and_self, Bool.true_and, Bool.and_true]
      exact ⟨by rw [hz]; rfl, rfl⟩
  · have g0 : decide (P p ≤ cg_gc P s 0) = false := decide_eq_false h16
    refine cr_iconst (pc := 19) (v := nI 0) C dX2_covers_19 (by decide) ?_
    refine cr_zreturn (pc := 20) C X dX2_covers_20 (by first | exact Or.inr rfl | exact Or.inl rfl | assumption) ?_
    have hz : cg_cs P s p = false := by unfold cg_cs; simp only [*, decide_true, decide_false, Bool.false_and, Bool.and_false, Bool.and_self, Bool.true_and, Bool.and_true]
    exact ⟨by rw [hz]; rfl, rfl⟩
